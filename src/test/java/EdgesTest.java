import java.util.NoSuchElementException;

/** For each promise the least and the greatest that is allowed, and what is full or empty; RefusalsTest has the rest. */
public final class EdgesTest {
    private static final Class<IndexOutOfBoundsException> BOUNDS = IndexOutOfBoundsException.class;
    private static final Class<IllegalStateException> STATE = IllegalStateException.class;
    private static final Class<NoSuchElementException> ELEMENT = NoSuchElementException.class;
    private static final Class<ArithmeticException> ARITHMETIC = ArithmeticException.class;
    private static final int KNOWN = 7;

    private EdgesTest() {
    }

    public static void main(String[] args) {
        aNewObject();
        addNode();
        link();
        setReader();
        setFault();
        addFlight();
        setTime();
        cancel();
        assign();
        addUnit();
        setEarly();
        message();
        boardAndOff();
        setGroup();
        addBag();
        rush();
        verdict();
        carry();
        tick();
        whereIs();
        left();
        onNodeAndBagOn();
        unitOf();
        mayFly();
        countsOfAll();
        textOf();
        moves();
        flownShare();
        meanOnNode();
        isSound();
        Check.end();
    }

    private static Bagweave withFlight() {
        Bagweave x = Nets.of("c19 b19 s193", "");
        x.addFlight(500);
        x.addUnit(0, 'e', 9);
        x.message(KNOWN, 0, 3);
        x.board(3);
        return x;
    }

    /** 1: "without nodes, flights and bags, at the tick 0"; and ticks go by all the same. */
    private static void aNewObject() {
        Bagweave x = new Bagweave();
        Check.due("1: tick", 0, x.ticks());
        Check.due("1: bags", 0, x.bags());
        Check.due("1: no node", BOUNDS, () -> x.onNode(0));
        Check.due("1: no flight", BOUNDS, () -> x.timeOf(0));
        Check.due("1: no bag", BOUNDS, () -> x.goal(0));
        Check.due("1: no share", ARITHMETIC, () -> x.flownShare());
        Check.due("1: no mean", ARITHMETIC, () -> x.meanOnNode());
        Check.due("1: sound", true, x.isSound());
        Check.due("1: many ticks", 60, x.tick(60));
        Check.due("1: nothing moved", 0L, x.moves());
        Check.due("1: no rings", 0, x.rings());
        Check.due("1: none taken out", 0, x.takenOut());
        Check.due("1: still sound", true, x.isSound());
        Check.due("1: the first node", 0, x.addNode('i', 1, 1, 0));
        Check.due("1: the first flight", 0, x.addFlight(61));
        Check.due("1: the first bag", 0, x.addBag(0, 0, 0, 'e'));
        Bagweave other = new Bagweave();
        Check.due("1: each object for itself", BOUNDS, () -> other.onNode(0));
    }

    private static void addNode() {
        for (char kind : "ibrsmecq".toCharArray()) {
            Bagweave x = new Bagweave();
            Check.due("2: the least of " + kind, 0, x.addNode(kind, 1, 1, 1));
            Check.due("2: the greatest of " + kind, 1, x.addNode(kind, 9, 9, kind == 's' ? 3 : 1));
            Check.due("2: empty", 0, x.onNode(1));
            int number = 2;
            for (int level : new int[] {0, 4, -1, Integer.MIN_VALUE, Integer.MAX_VALUE}) {
                if (kind != 's') {
                    Check.due("2: level " + level + " means nothing to " + kind, number, x.addNode(kind, 1, 1, level));
                    number++;
                }
            }
        }
        Bagweave x = new Bagweave();
        for (int i = 0; i < 20; i++) {
            Check.due("2: number", i, x.addNode('b', 1, 1, 0));
        }
        Check.due("2: the 21st", STATE, () -> x.addNode('b', 1, 1, 0));
    }

    private static void link() {
        Bagweave x = Nets.bare("i11 q11" + " b11".repeat(18));
        for (int to = 19; to >= 16; to--) {
            Check.due("3: how many", 20 - to, x.link(0, to));
        }
        Check.due("3: the 5th", STATE, () -> x.link(0, 15));
        Check.due("3: from the last one", 1, x.link(19, 18));
        Check.due("3: to and fro", 1, x.link(18, 19));
        Check.due("3: to a desk for problems", 2, x.link(19, 1));
        Check.due("3: to where four lead", 1, x.link(15, 19));
    }

    private static void setReader() {
        Bagweave x = Nets.bare("i11" + " b11".repeat(18) + " r11");
        String hows = "owmmwoo";
        for (int i = 1; i < hows.length(); i++) {
            Check.due("4: how it did", hows.charAt(i - 1), x.setReader(19, hows.charAt(i)));
        }
        x.setFault(19, true);
        Check.due("4: of one at fault", 'o', x.setReader(19, 'w'));
        Bagweave two = Nets.bare("i11 r11 r11");
        two.setReader(1, 'm');
        Check.due("4: each for itself", 'o', two.setReader(2, 'w'));
    }

    private static void setFault() {
        for (char kind : "ibrsmecq".toCharArray()) {
            Bagweave x = Nets.bare("i11 " + kind + "111");
            boolean[] is = {false, false, true, true, false};
            for (int i = 1; i < is.length; i++) {
                Check.due("5: whether it was, " + kind, is[i - 1], x.setFault(1, is[i]));
            }
            Check.due("5: each for itself", false, x.setFault(0, true));
        }
    }

    private static void addFlight() {
        Bagweave x = new Bagweave();
        Check.due("6: the least time", 0, x.addFlight(1));
        Check.due("6: the greatest time", 1, x.addFlight(9999));
        Check.due("6: its time", 9999, x.timeOf(1));
        x.tick(60);
        Check.due("6: the least time now", 2, x.addFlight(61));
        Check.due("6: its time", 61, x.timeOf(2));
        for (int i = 3; i < 10; i++) {
            Check.due("6: number", i, x.addFlight(61));
        }
        Check.due("6: the 11th", STATE, () -> x.addFlight(61));
        Check.due("6: the 10th is open", 'o', x.stateOf(9));
        x.tick(1);
        Check.due("6: the 10th has left", 'd', x.stateOf(9));
        Check.due("6: those that have left count", STATE, () -> x.addFlight(62));
    }

    private static void setTime() {
        Bagweave x = new Bagweave();
        x.addFlight(9999);
        Check.due("7: the least", 9999, x.setTime(0, 1));
        Check.due("7: the greatest", 1, x.setTime(0, 9999));
        Check.due("7: the same", 9999, x.setTime(0, 9999));
        x.tick(60);
        Check.due("7: the least now", 9999, x.setTime(0, 61));
        Check.due("7: its time", 61, x.timeOf(0));
        x.tick(1);
        Check.due("7: it leaves then", 'd', x.stateOf(0));
    }

    private static void cancel() {
        Bagweave x = withFlight();
        Check.due("8: none in its units", 0, x.cancel(0));
        Check.due("8: cancelled", 'c', x.stateOf(0));
        Bagweave without = new Bagweave();
        for (int i = 0; i < 10; i++) {
            without.addFlight(9);
        }
        Check.due("8: the last one, without units", 0, without.cancel(9));
        Check.due("8: it alone", 'o', without.stateOf(8));
        Bagweave full = withFlight();
        for (int bag = 0; bag < 9; bag++) {
            load(full, Nets.clear(full, KNOWN, 'e'));
        }
        Check.due("8: nine", 9, full.cancel(0));
        Check.due("8: nine taken out", 9, full.takenOut());
    }

    private static void load(Bagweave x, int bag) {
        x.carry(bag, Nets.OWN);
        x.tick(1);
    }

    private static void assign() {
        Bagweave x = Nets.bare("c11" + " b11".repeat(18) + " c11");
        x.addFlight(9);
        Check.due("9: none before", -1, x.assign(0, 19, -1));
        Check.due("9: the last node before", 19, x.assign(0, 0, 19));
        Check.due("9: the first node before", 0, x.assign(0, 19, 0));
        Check.due("9: the same again", 19, x.assign(0, 19, 0));
        x.addFlight(9);
        Check.due("9: each flight for itself", -1, x.assign(1, 19, 0));
        x.setFault(0, true);
        Check.due("9: one at fault", 19, x.assign(1, 0, -1));
        Bagweave closed = withFlight();
        load(closed, Nets.clear(closed, KNOWN, 'e'));
        closed.setOff(3, true);
        closed.setTime(0, closed.ticks() + 1);
        closed.tick(1);
        Check.due("9: closed", 'l', closed.stateOf(0));
        Check.due("9: of a closed one", -1, closed.assign(0, Nets.OWN, -1));
        Check.due("9: it has it", Nets.OWN, closed.assign(0, Nets.OWN, -1));
    }

    private static void addUnit() {
        Bagweave x = new Bagweave();
        x.addFlight(9);
        x.addFlight(9);
        Check.due("10: room 1", 0, x.addUnit(0, 'f', 1));
        Check.due("10: room 9", 1, x.addUnit(0, 'e', 9));
        Check.due("10: the third", 2, x.addUnit(0, 't', 1));
        Check.due("10: the fourth", 3, x.addUnit(0, 't', 9));
        Check.due("10: the fifth", STATE, () -> x.addUnit(0, 't', 9));
        Check.due("10: each flight for itself", 0, x.addUnit(1, 'e', 1));
    }

    private static void setEarly() {
        Bagweave x = new Bagweave();
        int[] limits = {30, 0, 999, 998, 1, 1, 30};
        for (int i = 1; i < limits.length; i++) {
            Check.due("11: the one before", limits[i - 1], x.setEarly(limits[i]));
        }
    }

    private static void message() {
        Bagweave x = new Bagweave();
        for (int i = 0; i < 10; i++) {
            x.addFlight(9);
        }
        for (int tag = 0; tag <= 99; tag++) {
            Check.due("12: first for " + tag, false, x.message(tag, tag % 10, tag % 40));
        }
        for (int tag = 0; tag <= 99; tag++) {
            Check.due("12: another one for " + tag, true, x.message(tag, 9, 39));
        }
        x.addNode('r', 1, 1, 0);
        int input = x.addNode('i', 1, 1, 0);
        x.carry(x.addBag(input, 99, 0, 'e'), 0);
        Check.due("12: the last flight", 9, x.flightOf(0));
        x.cancel(9);
        Check.due("12: for a cancelled one", true, x.message(99, 9, 0));
        x.tick(9);
        Check.due("12: for one that has left", true, x.message(99, 0, 0));
        Check.due("12: its flight", 0, x.flightOf(0));
    }

    private static void boardAndOff() {
        Bagweave x = new Bagweave();
        for (int passenger = 0; passenger <= 39; passenger++) {
            Check.due("13: had not, " + passenger, true, x.board(passenger));
            Check.due("14: was not, " + passenger, false, x.setOff(passenger, passenger % 2 == 0));
        }
        for (int passenger = 0; passenger <= 39; passenger++) {
            Check.due("13: had, " + passenger, false, x.board(passenger));
            Check.due("14: whether, " + passenger, passenger % 2 == 0, x.setOff(passenger, false));
            Check.due("14: no longer, " + passenger, false, x.setOff(passenger, true));
            Check.due("14: was, " + passenger, true, x.setOff(passenger, true));
            Check.due("13: one who is off had boarded, " + passenger, false, x.board(passenger));
        }
    }

    private static void setGroup() {
        Bagweave x = new Bagweave();
        for (int passenger : new int[] {0, 39}) {
            for (int group = 0; group <= 9; group++) {
                Check.due("15: before " + group, Math.max(0, group - 1), x.setGroup(passenger, group));
            }
            Check.due("15: from 9", 9, x.setGroup(passenger, 0));
        }
        Check.due("15: each passenger alone", 0, x.setGroup(38, 9));
        Check.due("15: each passenger alone", 0, x.setGroup(1, 9));
    }

    private static void addBag() {
        for (int tag : new int[] {0, 99}) {
            for (int suspicion : new int[] {0, 3}) {
                for (char sort : "fet".toCharArray()) {
                    Bagweave x = Nets.bare("i91 m11");
                    Check.due("16: number", 0, x.addBag(0, tag, suspicion, sort));
                    Check.due("16: its node", 0, x.nodeOf(0));
                    Check.due("16: its ticks", 9, x.left(0));
                    Check.due("16: not read", ELEMENT, () -> x.readTag(0));
                    Check.due("16: not clear", false, x.isClear(0));
                    Check.due("16: it has passed none", 0, x.level(0));
                    x.carry(0, 1);
                    x.tick(1);
                    Check.due("16: its tag", tag, x.readTag(0));
                }
            }
        }
        Bagweave x = Nets.bare("i19" + " b11".repeat(18) + " i12");
        Check.due("16: at the last node", 0, x.addBag(19, 1, 0, 'e'));
        Check.due("16: the last place", 1, x.addBag(19, 1, 0, 'e'));
        Check.due("16: full", UnsupportedOperationException.class, () -> x.addBag(19, 1, 0, 'e'));
        x.carry(0, 1);
        Check.due("16: a place again", 2, x.addBag(19, 1, 0, 'e'));
        goneBagsCountAmongTheFifty();
    }

    private static void goneBagsCountAmongTheFifty() {
        Bagweave x = Nets.bare("i11 s113");
        for (int i = 0; i < 50; i++) {
            Check.due("16: number", i, x.addBag(0, 1, 0, 'e'));
            x.carry(i, 1);
            x.tick(1);
            x.verdict(i, false);
        }
        Check.due("16: the input is empty", 0, x.onNode(0));
        Check.due("16: the 51st", STATE, () -> x.addBag(0, 1, 0, 'e'));
        Check.due("42: fifty", 50, x.bags());
        Check.due("22: the last one is gone", 'x', x.whereIs(49));
    }

    private static void rush() {
        Bagweave x = withFlight();
        load(x, Nets.clear(x, KNOWN, 'e'));
        x.addBag(Nets.INPUT, 1, 0, 'e');
        x.setTime(0, x.ticks() + 1);
        Check.due("17: in a unit", true, x.rush(0));
        Check.due("17: it is one already", false, x.rush(0));
        x.tick(1);
        Check.due("17: flown, one already", false, x.rush(0));
        Check.due("17: the next one was not", true, x.rush(1));
        Check.due("17: it is one already", false, x.rush(1));
        Check.due("39: a rush one with a flight that has left", true, x.mayFly(1, 0));
    }

    private static void verdict() {
        Bagweave x = Nets.bare("i19" + " b11".repeat(18) + " s143");
        for (int bag = 0; bag < 4; bag++) {
            x.carry(x.addBag(0, 1, bag, 'e'), 19);
        }
        x.tick(1);
        Check.due("18: the last of a row, at the last node", 19, x.verdict(3, false));
        Check.due("18: one amidst", 19, x.verdict(1, true));
        Check.due("18: places", "19 19 19 x", Nets.places(x));
        x.setFault(19, true);
        Check.due("18: at fault", 19, x.verdict(0, false));
        Check.due("18: places", "x 19 19 x", Nets.places(x));
        Check.due("34: the rest keeps its order", 1, x.bagOn(19, 0));
        Check.due("34: the rest keeps its order", 2, x.bagOn(19, 1));
        Bagweave first = Nets.bare("s113 i11");
        first.carry(first.addBag(1, 1, 3, 'e'), 0);
        first.tick(1);
        Check.due("18: at the first node", 0, first.verdict(0, true));
    }

    private static void carry() {
        Bagweave x = Nets.of("i11 b11 r11 s111 s113 m11 e11 c11 q11 b11 b11 b11 b11 b11 b11 b11", "");
        x.addBag(Nets.INPUT, 1, 0, 'e');
        for (int node = 1; node < 20; node++) {
            Check.due("19: from " + (node - 1), node - 1, x.carry(0, node));
            Check.due("19: to " + node, node, x.nodeOf(0));
            Check.due("19: none where it was", 0, x.onNode(node - 1));
        }
        Check.due("19: back to the first node", 19, x.carry(0, 0));
        Check.due("44: each counts", 21L, x.moves());
        x.setFault(0, true);
        Check.due("19: from one at fault", 0, x.carry(0, 1));
        Bagweave side = withFlight();
        load(side, Nets.clear(side, KNOWN, 'e'));
        side.cancel(0);
        Check.due("19: from the side", -1, side.carry(0, Nets.OWN));
        Check.due("22: on a node", 'n', side.whereIs(0));
        Check.due("19: from the node", Nets.OWN, side.carry(0, Nets.INPUT));
        lastPlaceByHand();
    }

    private static void lastPlaceByHand() {
        for (int room = 1; room <= 9; room++) {
            Bagweave x = Nets.of("q1" + room, "");
            for (int i = 0; i < room; i++) {
                Check.due("19: place " + i, Nets.INPUT, x.carry(x.addBag(Nets.INPUT, 1, 0, 'e'), Nets.OWN));
            }
            int beyond = x.addBag(Nets.INPUT, 1, 0, 'e');
            Check.due("19: full", STATE, () -> x.carry(beyond, Nets.OWN));
            x.carry(0, Nets.INPUT);
            Check.due("19: a place again", Nets.INPUT, x.carry(beyond, Nets.OWN));
            Check.due("34: as the last one", beyond, x.bagOn(Nets.OWN, room - 1));
        }
    }

    private static void tick() {
        Bagweave x = new Bagweave();
        Check.due("20: the least", 1, x.tick(1));
        Check.due("20: the greatest", 61, x.tick(60));
        Check.due("20: one less", 120, x.tick(59));
        for (int i = 1; i <= 165; i++) {
            x.tick(60);
        }
        Check.due("21: past the last time of a flight", 120 + 165 * 60, x.ticks());
        Check.due("6: no time is left", IllegalArgumentException.class, () -> x.addFlight(x.ticks() + 1));
    }

    private static void whereIs() {
        Bagweave x = withFlight();
        for (int bag = 0; bag < 3; bag++) {
            Nets.clear(x, KNOWN, 'e');
        }
        Check.due("22: on a node", 'n', x.whereIs(0));
        load(x, 0);
        load(x, 1);
        Check.due("22: in a unit", 'u', x.whereIs(0));
        x.rush(0);
        x.setOff(3, true);
        x.setTime(0, x.ticks() + 1);
        x.tick(1);
        Check.due("22: in a unit of a closed flight", 'u', x.whereIs(0));
        Check.due("22: at the side", 's', x.whereIs(1));
        x.tick(2);
        Check.due("22: it has flown", 'f', x.whereIs(0));
        Nets.unread(x, 1, 6);
        x.tick(1);
        x.verdict(3, false);
        Check.due("22: taken out by a verdict", 'x', x.whereIs(3));
        x.carry(1, Nets.INPUT);
        Check.due("22: on a node again", "f 0 2 x", Nets.places(x));
    }

    private static void left() {
        Bagweave x = Nets.of("q99", "");
        Nets.unread(x, 1, Nets.OWN);
        for (int i = 9; i >= 0; i--) {
            Check.due("24: to do", i, x.left(0));
            x.tick(1);
        }
        Check.due("24: none any more", 0, x.left(0));
    }

    private static void onNodeAndBagOn() {
        Bagweave x = Nets.bare("i19" + " b11".repeat(18) + " q19");
        for (int i = 0; i < 9; i++) {
            int count = i;
            Check.due("33: how many", count, x.onNode(19));
            Check.due("34: none at " + count, ELEMENT, () -> x.bagOn(19, count));
            x.addBag(0, 1, 0, 'e');
            x.carry(count, 19);
            Check.due("34: the last one", count, x.bagOn(19, count));
            Check.due("34: the first one", 0, x.bagOn(19, 0));
        }
        Check.due("33: full", 9, x.onNode(19));
        Check.due("34: none beyond", ELEMENT, () -> x.bagOn(19, 9));
        x.carry(4, 0);
        Check.due("34: the one behind it", 5, x.bagOn(19, 4));
        Check.due("34: the last one", 8, x.bagOn(19, 7));
        Check.due("34: one less", ELEMENT, () -> x.bagOn(19, 8));
        x.carry(8, 0);
        x.carry(0, 18);
        Check.due("34: the first and the last are gone", 1, x.bagOn(19, 0));
        Check.due("34: the last now", 7, x.bagOn(19, 5));
        Check.due("33: six", 6, x.onNode(19));
    }

    /** 35: "10 times the flight plus the unit", for the least and the greatest. */
    private static void unitOf() {
        for (int flight : new int[] {0, 1, 9}) {
            for (int unit : new int[] {0, 3}) {
                Bagweave x = Nets.of("c19", "");
                for (int i = 0; i < 10; i++) {
                    x.addFlight(500);
                }
                for (int i = 0; i < 4; i++) {
                    x.addUnit(flight, i == unit ? 'e' : 'f', 1);
                }
                x.message(KNOWN, flight, 3);
                load(x, Nets.clear(x, KNOWN, 'e'));
                Check.due("35: the unit", 10 * flight + unit, x.unitOf(0));
                for (int i = 0; i < 10; i++) {
                    Check.due("36: loaded " + i, i == flight ? 1 : 0, x.loaded(i));
                }
            }
        }
    }

    private static void mayFly() {
        Bagweave x = Nets.bare("i19");
        for (int i = 0; i < 10; i++) {
            x.addFlight(9);
        }
        x.message(99, 9, 39);
        x.board(39);
        x.addBag(0, 99, 0, 'e');
        for (int flight = 0; flight < 10; flight++) {
            Check.due("39: flight " + flight, flight == 9, x.mayFly(0, flight));
        }
        x.tick(9);
        Check.due("39: it has left", true, x.mayFly(0, 9));
        Bagweave least = Nets.bare("i19");
        least.addFlight(9);
        least.message(0, 0, 0);
        least.board(0);
        least.addBag(0, 0, 0, 'e');
        least.addBag(0, 1, 0, 'e');
        Check.due("39: the least of all numbers", true, least.mayFly(0, 0));
        Check.due("39: the tag beside it", false, least.mayFly(1, 0));
    }

    private static void countsOfAll() {
        Bagweave x = withFlight();
        Check.due("40: none", 0, x.takenOut());
        load(x, Nets.clear(x, KNOWN, 'e'));
        load(x, Nets.clear(x, KNOWN, 'e'));
        Check.due("42: two", 2, x.bags());
        x.setOff(3, true);
        x.rush(1);
        x.setTime(0, x.ticks() + 1);
        x.tick(1);
        Check.due("40: one", 1, x.takenOut());
        x.cancel(0);
        Check.due("40: and one of a cancelled flight", 2, x.takenOut());
        x.carry(0, 6);
        x.carry(1, 6);
        Check.due("42: still two", 2, x.bags());
        Check.due("40: still two", 2, x.takenOut());
    }

    private static String textOf(Bagweave x, int bag) {
        StringBuilder text = new StringBuilder();
        for (int i = 0; i < 9; i++) {
            Object letter = letterOf(x, bag, i);
            if (!(letter instanceof Character)) {
                return text.append(letter).toString();
            }
            text.append(letter);
        }
        return text.toString();
    }

    private static Object letterOf(Bagweave x, int bag, int index) {
        return Check.answerOf(() -> x.textOf(bag, index));
    }

    /** 43: each letter of a goal, of one figure and of two, and none behind the last letter. */
    private static void textOf() {
        String end = "throws.java.util.NoSuchElementException";
        Bagweave x = withFlight();
        x.addBag(Nets.INPUT, KNOWN, 3, 'e');
        Check.due("43: not read", "0nm" + end, textOf(x, 0));
        x.carry(0, Nets.READER);
        Check.due("43: not clear", "0ns" + end, textOf(x, 0));
        x.carry(0, 6);
        x.tick(1);
        x.verdict(0, true);
        Check.due("43: early", "0ne" + end, textOf(x, 0));
        x.setEarly(999);
        x.assign(0, Nets.OWN, -1);
        Check.due("43: to its chute", "0nc" + end, textOf(x, 0));
        load(x, 0);
        Check.due("43: in a unit", "0u" + end, textOf(x, 0));
        x.cancel(0);
        Check.due("43: at the side", "0s" + end, textOf(x, 0));
        x.carry(0, 5);
        Check.due("43: cancelled", "0nq" + end, textOf(x, 0));
        for (int bag = 1; bag < 50; bag++) {
            x.addBag(Nets.INPUT, 1, 0, 'e');
            x.carry(bag, 6);
            x.tick(1);
            if (bag == 9 || bag == 10 || bag == 49) {
                Check.due("43: of the bag " + bag, bag + "nm" + end, textOf(x, bag));
            }
            x.verdict(bag, false);
        }
        Check.due("43: taken out, one figure", "9x" + end, textOf(x, 9));
        Check.due("43: taken out, two figures", "49x" + end, textOf(x, 49));
        Bagweave flown = withFlight();
        load(flown, Nets.clear(flown, KNOWN, 'e'));
        flown.setTime(0, flown.ticks() + 1);
        flown.tick(1);
        Check.due("43: flown", "0f" + end, textOf(flown, 0));
    }

    /** 44: "how often bags came to nodes, those that were brought or carried included". */
    private static void moves() {
        Bagweave x = Nets.of("b19 m19 c19", "45");
        Check.due("44: none", 0L, x.moves());
        x.addBag(Nets.INPUT, 1, 0, 'e');
        Check.due("44: brought", 1L, x.moves());
        x.carry(0, 4);
        Check.due("44: carried", 2L, x.moves());
        Check.answerOf(() -> x.carry(0, 4));
        Check.due("44: not when it was refused", 2L, x.moves());
        x.tick(1);
        Check.due("44: by a tick", 3L, x.moves());
        x.tick(5);
        Check.due("44: not where it stays", 3L, x.moves());
        Bagweave unit = withFlight();
        load(unit, Nets.clear(unit, KNOWN, 'e'));
        Check.due("44: a unit is no node", 4L, unit.moves());
        unit.cancel(0);
        Check.due("44: the side is none", 4L, unit.moves());
        unit.carry(0, Nets.INPUT);
        Check.due("44: from the side", 5L, unit.moves());
    }

    private static void flownShare() {
        for (int count = 1; count <= 9; count++) {
            for (int flown = 0; flown <= count; flown++) {
                Bagweave x = withFlight();
                for (int bag = 0; bag < count; bag++) {
                    Nets.clear(x, KNOWN, 'e');
                }
                for (int bag = 0; bag < flown; bag++) {
                    load(x, bag);
                }
                Check.due("45: in units, " + flown + " of " + count, 0.0f, x.flownShare());
                x.setTime(0, x.ticks() + 1);
                x.tick(1);
                Check.due("45: " + flown + " of " + count, (float) flown / (float) count, x.flownShare());
            }
        }
    }

    private static void meanOnNode() {
        for (int nodes = 1; nodes <= 20; nodes++) {
            Bagweave x = Nets.bare("i19" + " b19".repeat(nodes - 1));
            Check.due("46: none on " + nodes, 0.0, x.meanOnNode());
            for (int bag = 0; bag < 9; bag++) {
                x.addBag(0, 1, 0, 'e');
                Check.due("46: on " + nodes, (double) (bag + 1) / (double) nodes, x.meanOnNode());
            }
        }
        Bagweave x = withFlight();
        load(x, Nets.clear(x, KNOWN, 'e'));
        Nets.clear(x, KNOWN, 'e');
        Check.due("46: not those in units", 1.0 / 7.0, x.meanOnNode());
        x.cancel(0);
        Check.due("46: not those at the side", 1.0 / 7.0, x.meanOnNode());
    }

    /** 47: with nodes and units that are just full, and with bags that would not be allowed to fly any more. */
    private static void isSound() {
        Bagweave x = Nets.of("c11 b11", "");
        x.addFlight(500);
        x.addUnit(0, 'e', 1);
        x.message(KNOWN, 0, 3);
        x.board(3);
        load(x, Nets.clear(x, KNOWN, 'e'));
        load(x, Nets.clear(x, KNOWN, 'e'));
        for (int i = 0; i < 9; i++) {
            x.addBag(Nets.INPUT, 1, 0, 'e');
        }
        Check.due("47: full nodes and a full unit", true, x.isSound());
        x.setTime(0, x.ticks() + 1);
        x.tick(1);
        Check.due("47: flown", true, x.isSound());
        x.setOff(3, true);
        x.message(KNOWN, 0, 4);
        Check.due("39: it may not fly any more", false, x.mayFly(0, 0));
        Check.due("47: but when it left", true, x.isSound());
        Bagweave rushed = withFlight();
        load(rushed, Nets.clear(rushed, KNOWN, 'e'));
        rushed.setOff(3, true);
        rushed.rush(0);
        rushed.setTime(0, rushed.ticks() + 1);
        rushed.tick(1);
        Check.due("47: a rush one has flown", 'f', rushed.whereIs(0));
        Check.due("47: by the rule", true, rushed.isSound());
    }
}
