import java.util.NoSuchElementException;

/** For each promise the ordinary inputs, the edges that the document names, and wrong inputs. */
public final class PromisesTest {
    private static final Class<IndexOutOfBoundsException> BOUNDS = IndexOutOfBoundsException.class;
    private static final Class<IllegalArgumentException> ARGUMENT = IllegalArgumentException.class;
    private static final Class<IllegalStateException> STATE = IllegalStateException.class;
    private static final Class<UnsupportedOperationException> SUPPORT = UnsupportedOperationException.class;
    private static final Class<NoSuchElementException> ELEMENT = NoSuchElementException.class;
    private static final Class<ArithmeticException> ARITHMETIC = ArithmeticException.class;

    private static final int INPUT = 0;
    private static final int READER = 1;
    private static final int FIRST_SCREEN = 2;
    private static final int LAST_SCREEN = 4;
    private static final int BELT = 5;
    private static final int CHUTE = 6;
    private static final int OVERFLOW = 7;
    private static final int CODING = 8;
    private static final int STORE = 9;
    private static final int PROBLEMS = 10;

    private PromisesTest() {
    }

    public static void main(String[] args) {
        promise1();
        promise2();
        promise3();
        promise4();
        promise5();
        promise6();
        promise7();
        promise8();
        promise9();
        promise10();
        promise11();
        promise12();
        promise13();
        promise14();
        promise15();
        promise16();
        promise17();
        promise18();
        promise19();
        promises20And21();
        promises22To24();
        promises25And26();
        promises27And28();
        promise29();
        promises30And31();
        promise32();
        promises33And34();
        promises35And36();
        promises37And38();
        promise39();
        promises40To42();
        promise43();
        promise44();
        promises45And46();
        promise47();
        Check.end();
    }

    /** A net with one of each kind, each of length 1 and room 3, a way to each goal, and an open flight at 20. */
    private static Bagweave airport() {
        Bagweave x = new Bagweave();
        x.addNode('i', 1, 3, 0);
        x.addNode('r', 1, 3, 0);
        x.addNode('s', 1, 3, 1);
        x.addNode('s', 1, 3, 2);
        x.addNode('s', 1, 3, 3);
        x.addNode('b', 1, 3, 0);
        x.addNode('c', 1, 3, 0);
        x.addNode('c', 1, 3, 0);
        x.addNode('m', 1, 3, 0);
        x.addNode('e', 1, 3, 0);
        x.addNode('q', 1, 3, 0);
        int[][] links = {{0, 1}, {1, 2}, {1, 8}, {2, 3}, {3, 4}, {2, 5}, {3, 5}, {4, 5}, {5, 6}, {5, 9}, {5, 10}, {5, 7},
            {8, 2}};
        for (int[] link : links) {
            x.link(link[0], link[1]);
        }
        x.addFlight(20);
        return x;
    }

    /** The same with the chute, a unit for 'e', a passenger 3 aboard, and the message for the tag 7. */
    private static Bagweave readyAirport() {
        Bagweave x = airport();
        x.assign(0, CHUTE, OVERFLOW);
        x.addUnit(0, 'e', 2);
        x.message(7, 0, 3);
        x.board(3);
        return x;
    }

    private static void promise1() {
        Bagweave x = new Bagweave();
        Check.due("1: ticks", 0, x.ticks());
        Check.due("1: bags", 0, x.bags());
        Check.due("1: takenOut", 0, x.takenOut());
        Check.due("1: rings", 0, x.rings());
        Check.due("1: moves", 0L, x.moves());
        Check.due("1: isSound", true, x.isSound());
        Check.due("1: no node", BOUNDS, () -> x.onNode(0));
        Check.due("1: no flight", BOUNDS, () -> x.stateOf(0));
        Check.due("1: no bag", BOUNDS, () -> x.whereIs(0));
        Check.due("1: tick without anything", 60, x.tick(60));
        Check.due("1: the early limit at first", 30, x.setEarly(5));
        Check.due("1: no message at first", false, withFlight().message(0, 0, 0));
    }

    private static Bagweave withFlight() {
        Bagweave x = new Bagweave();
        x.addFlight(1);
        return x;
    }

    private static void promise2() {
        Bagweave x = new Bagweave();
        for (char kind : new char[] {'x', 'I', 0, 300, 65535, 'd', 'f'}) {
            Check.due("2: kind " + (int) kind, ARGUMENT, () -> x.addNode(kind, 1, 1, 1));
        }
        for (int bad : new int[] {0, 10, -1, Integer.MIN_VALUE, Integer.MAX_VALUE}) {
            Check.due("2: length " + bad, ARGUMENT, () -> x.addNode('b', bad, 1, 1));
            Check.due("2: room " + bad, ARGUMENT, () -> x.addNode('b', 1, bad, 1));
        }
        for (int bad : new int[] {0, 4, -1}) {
            Check.due("2: level " + bad, ARGUMENT, () -> x.addNode('s', 1, 1, bad));
        }
        Check.due("2: nothing was added", BOUNDS, () -> x.onNode(0));
        String kinds = "ibrmecq";
        for (int i = 0; i < kinds.length(); i++) {
            Check.due("2: number of " + kinds.charAt(i), i, x.addNode(kinds.charAt(i), 1 + i, 9 - i, i % 2 == 0 ? -5 : 99));
        }
        for (int i = 1; i <= 3; i++) {
            Check.due("2: number of a screening", 6 + i, x.addNode('s', 9, 9, i));
        }
        for (int i = 10; i < 20; i++) {
            Check.due("2: number", i, x.addNode('b', 1, 1, 0));
        }
        Check.due("2: more than 20", STATE, () -> x.addNode('b', 1, 1, 0));
        Check.due("2: bad and more than 20", ARGUMENT, () -> x.addNode('b', 1, 0, 0));
        Check.due("2: no node 20", BOUNDS, () -> x.onNode(20));
        Check.due("2: node 19", 0, x.onNode(19));
    }

    private static void promise3() {
        Bagweave x = new Bagweave();
        for (char kind : "ibbbbbqi".toCharArray()) {
            x.addNode(kind, 1, 1, 0);
        }
        for (int bad : new int[] {-1, 8, 20, Integer.MAX_VALUE, Integer.MIN_VALUE}) {
            Check.due("3: from " + bad, BOUNDS, () -> x.link(bad, 0));
            Check.due("3: to " + bad, BOUNDS, () -> x.link(6, bad));
            Check.due("3: both " + bad, BOUNDS, () -> x.link(bad, bad));
        }
        Check.due("3: the same", ARGUMENT, () -> x.link(1, 1));
        Check.due("3: from problems", ARGUMENT, () -> x.link(6, 1));
        Check.due("3: to an input", ARGUMENT, () -> x.link(1, 0));
        for (int i = 1; i <= 4; i++) {
            int to = i;
            Check.due("3: how many", i, x.link(0, i));
            Check.due("3: again", ARGUMENT, () -> x.link(0, to));
        }
        Check.due("3: more than 4", STATE, () -> x.link(0, 5));
        Check.due("3: again and more than 4", ARGUMENT, () -> x.link(0, 4));
        Check.due("3: an input and more than 4", ARGUMENT, () -> x.link(0, 7));
        Check.due("3: back", 1, x.link(2, 1));
        Check.due("3: there, too", 1, x.link(1, 2));
        Check.due("3: to problems", 2, x.link(1, 6));
    }

    private static void promise4() {
        Bagweave x = airport();
        Check.due("4: no node", BOUNDS, () -> x.setReader(11, 'z'));
        Check.due("4: node -1", BOUNDS, () -> x.setReader(-1, 'o'));
        Check.due("4: no way, no reader", ARGUMENT, () -> x.setReader(BELT, 'z'));
        Check.due("4: no way", ARGUMENT, () -> x.setReader(READER, 'r'));
        Check.due("4: no reader", SUPPORT, () -> x.setReader(BELT, 'o'));
        Check.due("4: at first", 'o', x.setReader(READER, 'w'));
        Check.due("4: then", 'w', x.setReader(READER, 'm'));
        Check.due("4: then", 'm', x.setReader(READER, 'm'));
        int missed = x.addBag(INPUT, 7, 0, 'e');
        x.carry(missed, READER);
        Check.due("4: misread", ELEMENT, () -> x.readTag(missed));
        x.setReader(READER, 'w');
        Check.due("4: it is read as it comes", ELEMENT, () -> x.readTag(missed));
        int wrong = x.addBag(INPUT, 99, 0, 'e');
        x.carry(wrong, READER);
        Check.due("4: read wrong", 0, x.readTag(wrong));
        x.setReader(READER, 'o');
        int right = x.addBag(INPUT, 99, 0, 'e');
        x.carry(right, READER);
        Check.due("4: read right", 99, x.readTag(right));
        x.carry(wrong, BELT);
        x.carry(wrong, READER);
        Check.due("4: read once", 0, x.readTag(wrong));
    }

    private static void promise5() {
        Bagweave x = airport();
        Check.due("5: no node", BOUNDS, () -> x.setFault(11, true));
        Check.due("5: node -1", BOUNDS, () -> x.setFault(-1, false));
        int bag = x.addBag(INPUT, 7, 0, 'e');
        Check.due("5: was not", false, x.setFault(INPUT, true));
        Check.due("5: was", true, x.setFault(INPUT, true));
        x.tick(3);
        Check.due("5: its bags do not go on", 1, x.left(bag));
        Check.due("5: ended", true, x.setFault(INPUT, false));
        x.setFault(READER, true);
        x.tick(2);
        Check.due("5: takes none", INPUT, x.nodeOf(bag));
        Check.due("5: does its ticks", 0, x.left(bag));
        Check.due("5: none of a way", ELEMENT, () -> x.next(bag));
        x.setFault(INPUT, true);
        x.setFault(READER, false);
        x.tick(2);
        Check.due("5: lets none go", INPUT, x.nodeOf(bag));
        Check.due("5: the way from a node at fault", READER, x.next(bag));
        Check.due("5: carried from a node at fault", INPUT, x.carry(bag, BELT));
    }

    private static void promise6() {
        Bagweave x = new Bagweave();
        for (int bad : new int[] {0, -1, 10000, Integer.MIN_VALUE, Integer.MAX_VALUE}) {
            Check.due("6: time " + bad, ARGUMENT, () -> x.addFlight(bad));
        }
        x.tick(5);
        Check.due("6: now", ARGUMENT, () -> x.addFlight(5));
        Check.due("6: number", 0, x.addFlight(6));
        Check.due("6: number", 1, x.addFlight(9999));
        Check.due("6: open", 'o', x.stateOf(1));
        Check.due("6: time", 6, x.timeOf(0));
        for (int i = 2; i < 10; i++) {
            Check.due("6: number", i, x.addFlight(50));
        }
        Check.due("6: more than 10", STATE, () -> x.addFlight(50));
        Check.due("6: no time, and more than 10", ARGUMENT, () -> x.addFlight(5));
        Check.due("6: no flight 10", BOUNDS, () -> x.timeOf(10));
    }

    private static void promise7() {
        Bagweave x = new Bagweave();
        x.addFlight(4);
        x.addFlight(9);
        x.tick(3);
        Check.due("7: no flight, no time", BOUNDS, () -> x.setTime(2, 0));
        Check.due("7: flight -1", BOUNDS, () -> x.setTime(-1, 50));
        Check.due("7: now", ARGUMENT, () -> x.setTime(0, 3));
        Check.due("7: too late", ARGUMENT, () -> x.setTime(0, 10000));
        Check.due("7: as before", 4, x.timeOf(0));
        Check.due("7: before", 4, x.setTime(0, 5));
        Check.due("7: then", 5, x.timeOf(0));
        x.tick(1);
        Check.due("7: not at the old time", 'o', x.stateOf(0));
        x.tick(1);
        Check.due("7: at the new time", 'd', x.stateOf(0));
        Check.due("7: has left", SUPPORT, () -> x.setTime(0, 9));
        Check.due("7: has left, no time", ARGUMENT, () -> x.setTime(0, 5));
        x.cancel(1);
        Check.due("7: cancelled", SUPPORT, () -> x.setTime(1, 9));
        Bagweave late = closedFlight();
        Check.due("7: of a closed one", 22, late.setTime(0, 9999));
        Check.due("7: it stays closed", 'l', late.stateOf(0));
    }

    /** At the tick 20: the bag 0 was taken out of the flight 0, which is closed until 22; the bag 1 is in its unit. */
    private static Bagweave closedFlight() {
        Bagweave x = readyAirport();
        x.message(8, 0, 4);
        load(x, x.addBag(INPUT, 8, 0, 'e'));
        load(x, x.addBag(INPUT, 7, 0, 'e'));
        x.tick(20 - x.ticks());
        return x;
    }

    private static void load(Bagweave x, int bag) {
        x.carry(bag, READER);
        x.carry(bag, FIRST_SCREEN);
        x.tick(1);
        x.carry(bag, CHUTE);
        x.tick(1);
    }

    private static void promise8() {
        Bagweave x = readyAirport();
        load(x, x.addBag(INPUT, 7, 0, 'e'));
        load(x, x.addBag(INPUT, 7, 0, 'e'));
        Check.due("8: no flight", BOUNDS, () -> x.cancel(1));
        Check.due("8: flight -1", BOUNDS, () -> x.cancel(-1));
        Check.due("8: how many", 2, x.cancel(0));
        Check.due("8: at the side", 's', x.whereIs(0));
        Check.due("8: at the side", 's', x.whereIs(1));
        Check.due("8: in no unit", ELEMENT, () -> x.unitOf(0));
        Check.due("8: none in its units", 0, x.loaded(0));
        Check.due("8: state", 'c', x.stateOf(0));
        Check.due("8: again", SUPPORT, () -> x.cancel(0));
        Check.due("8: taken out", 2, x.takenOut());
        x.tick(30);
        Check.due("8: it does not leave", 'c', x.stateOf(0));
        Bagweave left = withFlight();
        left.tick(1);
        Check.due("8: has left", SUPPORT, () -> left.cancel(0));
        Bagweave closed = closedFlight();
        Check.due("8: of a closed one", 1, closed.cancel(0));
        Check.due("8: all taken out", 2, closed.takenOut());
    }

    private static void promise9() {
        Bagweave x = airport();
        Check.due("9: no flight", BOUNDS, () -> x.assign(1, CHUTE, -1));
        Check.due("9: no node", BOUNDS, () -> x.assign(0, 11, BELT));
        Check.due("9: chute -1", BOUNDS, () -> x.assign(0, -1, -1));
        Check.due("9: no other node, no chute", BOUNDS, () -> x.assign(0, BELT, 11));
        Check.due("9: overflow -2", BOUNDS, () -> x.assign(0, CHUTE, -2));
        Check.due("9: no chute", ARGUMENT, () -> x.assign(0, BELT, CHUTE));
        Check.due("9: overflow no chute", ARGUMENT, () -> x.assign(0, CHUTE, BELT));
        Check.due("9: both the same", ARGUMENT, () -> x.assign(0, CHUTE, CHUTE));
        Check.due("9: before", -1, x.assign(0, CHUTE, OVERFLOW));
        Check.due("9: then", CHUTE, x.assign(0, OVERFLOW, CHUTE));
        Check.due("9: then", OVERFLOW, x.assign(0, OVERFLOW, -1));
        x.cancel(0);
        Check.due("9: cancelled", SUPPORT, () -> x.assign(0, CHUTE, -1));
        Check.due("9: cancelled, no chute", ARGUMENT, () -> x.assign(0, BELT, -1));
        x.addFlight(1);
        x.tick(1);
        Check.due("9: has left", SUPPORT, () -> x.assign(1, CHUTE, -1));
        Check.due("9: of a closed one", CHUTE, closedFlight().assign(0, OVERFLOW, -1));
    }

    private static void promise10() {
        Bagweave x = airport();
        Check.due("10: no flight, no class", BOUNDS, () -> x.addUnit(1, 'x', 0));
        Check.due("10: no class", ARGUMENT, () -> x.addUnit(0, 'b', 1));
        Check.due("10: room 0", ARGUMENT, () -> x.addUnit(0, 'e', 0));
        Check.due("10: room 10", ARGUMENT, () -> x.addUnit(0, 'e', 10));
        Check.due("10: first", 0, x.addUnit(0, 'f', 1));
        Check.due("10: second", 1, x.addUnit(0, 'e', 9));
        Check.due("10: third", 2, x.addUnit(0, 't', 5));
        Check.due("10: fourth", 3, x.addUnit(0, 't', 5));
        Check.due("10: fifth", STATE, () -> x.addUnit(0, 'e', 5));
        Check.due("10: fifth, no room", ARGUMENT, () -> x.addUnit(0, 'e', 0));
        x.cancel(0);
        Check.due("10: cancelled, and four", SUPPORT, () -> x.addUnit(0, 'e', 5));
        Check.due("10: cancelled, no class", ARGUMENT, () -> x.addUnit(0, 'x', 5));
        Check.due("10: closed", SUPPORT, () -> closedFlight().addUnit(0, 'e', 1));
        Bagweave left = withFlight();
        left.tick(1);
        Check.due("10: has left", SUPPORT, () -> left.addUnit(0, 'e', 1));
    }

    private static void promise11() {
        Bagweave x = new Bagweave();
        Check.due("11: -1", ARGUMENT, () -> x.setEarly(-1));
        Check.due("11: 1000", ARGUMENT, () -> x.setEarly(1000));
        Check.due("11: at first", 30, x.setEarly(0));
        Check.due("11: then", 0, x.setEarly(999));
        Check.due("11: then", 999, x.setEarly(30));
    }

    private static void promise12() {
        Bagweave x = airport();
        x.addFlight(30);
        Check.due("12: no tag, no flight", ARGUMENT, () -> x.message(100, 5, 0));
        Check.due("12: tag -1", ARGUMENT, () -> x.message(-1, 0, 0));
        Check.due("12: no passenger, no flight", ARGUMENT, () -> x.message(0, 5, 40));
        Check.due("12: passenger -1", ARGUMENT, () -> x.message(0, 0, -1));
        Check.due("12: no flight", BOUNDS, () -> x.message(0, 2, 0));
        Check.due("12: flight -1", BOUNDS, () -> x.message(0, -1, 0));
        Check.due("12: first", false, x.message(0, 0, 0));
        Check.due("12: the same again", true, x.message(0, 0, 0));
        Check.due("12: edges", false, x.message(99, 1, 39));
        int bag = x.addBag(INPUT, 99, 0, 'e');
        x.carry(bag, READER);
        Check.due("12: its flight", 1, x.flightOf(bag));
        Check.due("12: another one", true, x.message(99, 0, 1));
        Check.due("12: the last one counts", 0, x.flightOf(bag));
        x.cancel(1);
        Check.due("12: late", true, x.message(99, 1, 1));
        Check.due("12: for a cancelled one", 1, x.flightOf(bag));
    }

    private static void promise13() {
        Bagweave x = new Bagweave();
        Check.due("13: -1", ARGUMENT, () -> x.board(-1));
        Check.due("13: 40", ARGUMENT, () -> x.board(40));
        Check.due("13: had not", true, x.board(39));
        Check.due("13: had", false, x.board(39));
        Check.due("13: another one", true, x.board(0));
    }

    private static void promise14() {
        Bagweave x = new Bagweave();
        Check.due("14: -1", ARGUMENT, () -> x.setOff(-1, true));
        Check.due("14: 40", ARGUMENT, () -> x.setOff(40, false));
        Check.due("14: was not", false, x.setOff(39, true));
        Check.due("14: was", true, x.setOff(39, true));
        Check.due("14: was", true, x.setOff(39, false));
        Check.due("14: was not", false, x.setOff(39, false));
        Check.due("14: another one", false, x.setOff(0, false));
    }

    private static void promise15() {
        Bagweave x = new Bagweave();
        Check.due("15: -1", ARGUMENT, () -> x.setGroup(-1, 1));
        Check.due("15: 40", ARGUMENT, () -> x.setGroup(40, 1));
        Check.due("15: group -1", ARGUMENT, () -> x.setGroup(0, -1));
        Check.due("15: group 10", ARGUMENT, () -> x.setGroup(0, 10));
        Check.due("15: none at first", 0, x.setGroup(39, 9));
        Check.due("15: then", 9, x.setGroup(39, 0));
        Check.due("15: then", 0, x.setGroup(39, 1));
    }

    private static void promise16() {
        Bagweave x = airport();
        Check.due("16: no node, no class", BOUNDS, () -> x.addBag(11, 7, 0, 'x'));
        Check.due("16: node -1", BOUNDS, () -> x.addBag(-1, 7, 0, 'e'));
        Check.due("16: no input", ARGUMENT, () -> x.addBag(BELT, 7, 0, 'e'));
        Check.due("16: tag -1", ARGUMENT, () -> x.addBag(INPUT, -1, 0, 'e'));
        Check.due("16: tag 100", ARGUMENT, () -> x.addBag(INPUT, 100, 0, 'e'));
        Check.due("16: suspicion -1", ARGUMENT, () -> x.addBag(INPUT, 7, -1, 'e'));
        Check.due("16: suspicion 4", ARGUMENT, () -> x.addBag(INPUT, 7, 4, 'e'));
        Check.due("16: no class", ARGUMENT, () -> x.addBag(INPUT, 7, 0, 'o'));
        x.setFault(INPUT, true);
        Check.due("16: at fault", SUPPORT, () -> x.addBag(INPUT, 7, 0, 'e'));
        Check.due("16: at fault, no class", ARGUMENT, () -> x.addBag(INPUT, 7, 0, 'q'));
        x.setFault(INPUT, false);
        Check.due("16: none came", 0L, x.moves());
        Check.due("16: first", 0, x.addBag(INPUT, 0, 3, 'f'));
        Check.due("16: second", 1, x.addBag(INPUT, 99, 0, 't'));
        Check.due("16: third", 2, x.addBag(INPUT, 99, 0, 'e'));
        Check.due("16: full", SUPPORT, () -> x.addBag(INPUT, 7, 0, 'e'));
        Check.due("16: its node", INPUT, x.nodeOf(2));
        Check.due("16: its ticks", 1, x.left(2));
        Check.due("16: not read", ELEMENT, () -> x.readTag(2));
        fiftyBags();
    }

    private static void fiftyBags() {
        Bagweave x = new Bagweave();
        for (int i = 0; i < 6; i++) {
            x.addNode('i', 1, 9, 0);
        }
        for (int i = 0; i < 50; i++) {
            Check.due("16: number", i, x.addBag(i / 9, 0, 0, 'e'));
        }
        Check.due("16: more than 50", STATE, () -> x.addBag(5, 0, 0, 'e'));
        Check.due("16: full, and more than 50", SUPPORT, () -> x.addBag(0, 0, 0, 'e'));
        Check.due("16: no tag, and more than 50", ARGUMENT, () -> x.addBag(5, 100, 0, 'e'));
        Check.due("16: fifty", 50, x.bags());
    }

    private static void promise17() {
        Bagweave x = airport();
        Check.due("17: no bag", BOUNDS, () -> x.rush(0));
        int bag = x.addBag(INPUT, 7, 0, 'e');
        Check.due("17: bag -1", BOUNDS, () -> x.rush(-1));
        Check.due("17: may not fly", false, x.mayFly(bag, 0));
        Check.due("17: was not", true, x.rush(bag));
        Check.due("17: was", false, x.rush(bag));
        Check.due("17: may fly", true, x.mayFly(bag, 0));
    }

    private static void promise18() {
        Bagweave x = readyAirport();
        Check.due("18: no bag", BOUNDS, () -> x.verdict(0, true));
        int bag = x.addBag(INPUT, 7, 3, 'e');
        Check.due("18: elsewhere", SUPPORT, () -> x.verdict(bag, true));
        x.carry(bag, LAST_SCREEN);
        Check.due("18: with ticks to do", SUPPORT, () -> x.verdict(bag, false));
        x.tick(1);
        Check.due("18: its node", LAST_SCREEN, x.verdict(bag, true));
        Check.due("18: clear", true, x.isClear(bag));
        Check.due("18: still there", LAST_SCREEN, x.nodeOf(bag));
        Check.due("18: again", SUPPORT, () -> x.verdict(bag, false));
        int bad = x.addBag(INPUT, 7, 0, 'e');
        x.carry(bad, LAST_SCREEN);
        x.tick(1);
        Check.due("18: it is not clear by its suspicion", false, x.isClear(bad));
        Check.due("18: its node", LAST_SCREEN, x.verdict(bad, false));
        Check.due("18: gone", 'x', x.whereIs(bad));
        Check.due("18: off the node", ELEMENT, () -> x.nodeOf(bad));
        Check.due("18: not clear", false, x.isClear(bad));
        Check.due("18: again", SUPPORT, () -> x.verdict(bad, true));
        Check.due("18: not out of a unit", 0, x.takenOut());
    }

    private static void promise19() {
        Bagweave x = readyAirport();
        Check.due("19: no bag", BOUNDS, () -> x.carry(0, INPUT));
        int bag = x.addBag(INPUT, 7, 3, 'e');
        Check.due("19: no node", BOUNDS, () -> x.carry(bag, 11));
        Check.due("19: node -1", BOUNDS, () -> x.carry(bag, -1));
        Check.due("19: there", SUPPORT, () -> x.carry(bag, INPUT));
        x.setFault(INPUT, true);
        Check.due("19: there, at fault", SUPPORT, () -> x.carry(bag, INPUT));
        x.setFault(BELT, true);
        Check.due("19: at fault", STATE, () -> x.carry(bag, BELT));
        Check.due("19: node before", INPUT, x.carry(bag, LAST_SCREEN));
        x.tick(1);
        Check.due("19: it waits", true, x.waitsForVerdict(bag));
        Check.due("19: one that waits", LAST_SCREEN, x.carry(bag, PROBLEMS));
        Check.due("19: from problems", PROBLEMS, x.carry(bag, LAST_SCREEN));
        Check.due("19: its ticks anew", 1, x.left(bag));
        x.tick(1);
        x.verdict(bag, false);
        Check.due("19: taken out", SUPPORT, () -> x.carry(bag, PROBLEMS));
        x.setFault(INPUT, false);
        for (int i = 0; i < 3; i++) {
            x.addBag(INPUT, 7, 0, 'e');
        }
        Check.due("19: the rest stays in its order", INPUT, x.carry(2, PROBLEMS));
        Check.due("19: the rest stays in its order", 1, x.bagOn(INPUT, 0));
        Check.due("19: the rest stays in its order", 3, x.bagOn(INPUT, 1));
        Check.due("19: back to the end", PROBLEMS, x.carry(2, INPUT));
        Check.due("19: back to the end", 2, x.bagOn(INPUT, 2));
        int other = carriedFromSide();
        Check.due("19: -1 for the side", -1, other);
        x.carry(1, PROBLEMS);
        int fourth = x.addBag(INPUT, 7, 0, 'e');
        Check.due("19: full", STATE, () -> x.carry(1, INPUT));
        Check.due("19: there and full", SUPPORT, () -> x.carry(fourth, INPUT));
        Check.due("19: a full one changes nothing", PROBLEMS, x.nodeOf(1));
        carriedFromUnit();
    }

    private static int carriedFromSide() {
        Bagweave x = closedFlight();
        int before = x.carry(0, READER);
        Check.due("19: read before", 8, x.readTag(0));
        Check.due("19: clear before", true, x.isClear(0));
        return before;
    }

    private static void carriedFromUnit() {
        Bagweave x = readyAirport();
        load(x, x.addBag(INPUT, 7, 0, 'e'));
        Check.due("19: in a unit", SUPPORT, () -> x.carry(0, BELT));
        x.setFault(BELT, true);
        Check.due("19: in a unit, at fault", SUPPORT, () -> x.carry(0, BELT));
        x.tick(20);
        Check.due("19: has flown", SUPPORT, () -> x.carry(0, CHUTE));
    }

    private static void promises20And21() {
        Bagweave x = new Bagweave();
        for (int bad : new int[] {0, -1, 61, Integer.MIN_VALUE, Integer.MAX_VALUE}) {
            Check.due("20: " + bad, ARGUMENT, () -> x.tick(bad));
        }
        Check.due("21: none yet", 0, x.ticks());
        Check.due("20: one", 1, x.tick(1));
        Check.due("20: sixty", 61, x.tick(60));
        Check.due("21: ticks", 61, x.ticks());
    }

    private static void promises22To24() {
        Bagweave x = readyAirport();
        for (int bad : new int[] {-1, 1, 50, Integer.MAX_VALUE}) {
            Check.due("22: bag " + bad, BOUNDS, () -> x.whereIs(bad));
            Check.due("23: bag " + bad, BOUNDS, () -> x.nodeOf(bad));
            Check.due("24: bag " + bad, BOUNDS, () -> x.left(bad));
        }
        int bag = x.addBag(INPUT, 7, 0, 'e');
        Check.due("22: on a node", 'n', x.whereIs(bag));
        Check.due("24: to do", 1, x.left(bag));
        x.carry(bag, READER);
        x.carry(bag, FIRST_SCREEN);
        x.tick(1);
        Check.due("23: the next node", BELT, x.nodeOf(bag));
        Check.due("24: to do anew", 1, x.left(bag));
        x.carry(bag, CHUTE);
        x.tick(1);
        Check.due("22: in a unit", 'u', x.whereIs(bag));
        Check.due("23: in a unit", ELEMENT, () -> x.nodeOf(bag));
        Check.due("24: in a unit", ELEMENT, () -> x.left(bag));
        x.tick(17);
        Check.due("22: not yet", 'u', x.whereIs(bag));
        x.tick(1);
        Check.due("22: has flown", 'f', x.whereIs(bag));
        Check.due("23: has flown", ELEMENT, () -> x.nodeOf(bag));
        Bagweave closed = closedFlight();
        Check.due("22: at the side", 's', closed.whereIs(0));
        Check.due("23: at the side", ELEMENT, () -> closed.nodeOf(0));
        Check.due("24: at the side", ELEMENT, () -> closed.left(0));
        Bagweave long9 = new Bagweave();
        long9.addNode('i', 9, 1, 0);
        long9.addBag(0, 1, 0, 't');
        long9.tick(5);
        Check.due("24: 9 less 5", 4, long9.left(0));
        long9.tick(5);
        Check.due("24: not below 0", 0, long9.left(0));
    }

    private static void promises25And26() {
        Bagweave x = airport();
        Check.due("25: no bag", BOUNDS, () -> x.readTag(0));
        Check.due("26: no bag", BOUNDS, () -> x.flightOf(0));
        int bag = x.addBag(INPUT, 7, 0, 'e');
        x.message(7, 0, 0);
        Check.due("25: not read", ELEMENT, () -> x.readTag(bag));
        Check.due("26: not read", ELEMENT, () -> x.flightOf(bag));
        x.carry(bag, CODING);
        Check.due("25: not yet done", ELEMENT, () -> x.readTag(bag));
        x.tick(1);
        Check.due("25: read at the desk", 7, x.readTag(bag));
        Check.due("26: its flight", 0, x.flightOf(bag));
        x.setReader(READER, 'w');
        int wrong = x.addBag(INPUT, 7, 0, 'e');
        x.carry(wrong, READER);
        Check.due("25: wrong", 8, x.readTag(wrong));
        Check.due("26: no message", ELEMENT, () -> x.flightOf(wrong));
        x.carry(wrong, CODING);
        x.tick(2);
        Check.due("25: the desk reads none that was read", 8, x.readTag(wrong));
        Check.due("29: it stays there", CODING, x.nodeOf(wrong));
        x.addFlight(50);
        x.message(8, 1, 0);
        Check.due("26: the flight of the tag that was read", 1, x.flightOf(wrong));
    }

    private static void promises27And28() {
        Bagweave x = airport();
        Check.due("27: no bag", BOUNDS, () -> x.isClear(0));
        Check.due("28: no bag", BOUNDS, () -> x.level(0));
        for (int suspicion = 0; suspicion <= 3; suspicion++) {
            int bag = x.addBag(INPUT, 7, suspicion, 'e');
            Check.due("27: at first", false, x.isClear(bag));
            Check.due("28: at first", 0, x.level(bag));
            x.carry(bag, FIRST_SCREEN);
            x.tick(1);
            Check.due("27: suspicion " + suspicion, suspicion < 1, x.isClear(bag));
            Check.due("28: suspicion " + suspicion, suspicion < 1 ? 0 : 1, x.level(bag));
            x.carry(bag, FIRST_SCREEN + 1);
            x.tick(1);
            Check.due("27: suspicion " + suspicion, suspicion < 2, x.isClear(bag));
            Check.due("28: suspicion " + suspicion, suspicion < 1 ? 0 : suspicion < 2 ? 1 : 2, x.level(bag));
            x.carry(bag, PROBLEMS);
            x.carry(bag, FIRST_SCREEN);
            x.tick(1);
            Check.due("28: whichever it had passed", suspicion < 1 ? 0 : 1, x.level(bag));
            if (x.nodeOf(bag) != LAST_SCREEN) {
                x.carry(bag, LAST_SCREEN);
            }
            x.tick(1);
            Check.due("27: the level 3 waits", suspicion < 2, x.isClear(bag));
            Check.due("28: the level 3 is not passed", suspicion < 1 ? 0 : 1, x.level(bag));
            Check.due("32: one that is clear does not wait", suspicion >= 2, x.waitsForVerdict(bag));
            x.addNode('i', 1, 1, 0);
            x.carry(bag, 11 + suspicion);
        }
    }

    private static void promise29() {
        Bagweave x = airport();
        Check.due("29: no bag", BOUNDS, () -> x.goal(0));
        int bag = x.addBag(INPUT, 7, 1, 'e');
        Check.due("29: not read", 'm', x.goal(bag));
        x.carry(bag, READER);
        Check.due("29: no message", 'm', x.goal(bag));
        x.message(7, 0, 3);
        Check.due("29: not clear", 's', x.goal(bag));
        Check.due("29: level 1", FIRST_SCREEN, x.next(bag));
        x.carry(bag, FIRST_SCREEN);
        x.tick(1);
        Check.due("29: level 2", 's', x.goal(bag));
        Check.due("29: went to level 2", FIRST_SCREEN + 1, x.nodeOf(bag));
        x.tick(1);
        Check.due("29: no chute", 'e', x.goal(bag));
        x.assign(0, CHUTE, OVERFLOW);
        Check.due("29: chute", 'c', x.goal(bag));
        x.setEarly(17);
        Check.due("29: not early, 18 ticks before", 'e', x.goal(bag));
        x.setEarly(18);
        Check.due("29: early limit reached", 'c', x.goal(bag));
        x.setTime(0, 21);
        Check.due("29: early", 'e', x.goal(bag));
        x.cancel(0);
        Check.due("29: cancelled", 'q', x.goal(bag));
        x.addFlight(3);
        x.message(7, 1, 3);
        Check.due("29: another flight", 'e', x.goal(bag));
        x.tick(1);
        Check.due("29: has left", 'q', x.goal(bag));
        Bagweave closed = closedFlight();
        Check.due("29: at the side", ELEMENT, () -> closed.goal(0));
        Check.due("29: in a unit", ELEMENT, () -> closed.goal(1));
        closed.carry(0, BELT);
        Check.due("29: closed", 'q', closed.goal(0));
        Check.due("29: to problems", PROBLEMS, closed.next(0));
        overflows();
    }

    private static void overflows() {
        Bagweave x = airport();
        x.message(7, 0, 3);
        x.assign(0, CHUTE, OVERFLOW);
        for (int i = 0; i < 4; i++) {
            int bag = x.addBag(INPUT, 7, 0, 'e');
            x.carry(bag, READER);
            x.carry(bag, FIRST_SCREEN);
            x.tick(1);
            if (i < 3) {
                x.carry(bag, CHUTE);
            }
        }
        x.tick(1);
        Check.due("29: overflow", OVERFLOW, x.nodeOf(3));
        Check.due("29: as it wants", ELEMENT, () -> x.next(3));
        Check.due("29: not counting itself", ELEMENT, () -> x.next(2));
        Check.due("29: a chute", 'c', x.goal(3));
        x.carry(3, BELT);
        Check.due("30: to overflow", OVERFLOW, x.next(3));
        x.assign(0, CHUTE, -1);
        Check.due("30: no overflow", CHUTE, x.next(3));
        Check.due("31: with its bags", 4, x.wayCost(3));
        x.assign(0, CHUTE, OVERFLOW);
        x.carry(0, PROBLEMS);
        Check.due("30: not full any more", CHUTE, x.next(3));
    }

    private static void promises30And31() {
        Bagweave x = new Bagweave();
        x.addNode('i', 1, 9, 0);
        x.addNode('b', 2, 9, 0);
        x.addNode('r', 1, 9, 0);
        x.addNode('b', 1, 9, 0);
        x.addNode('m', 1, 9, 0);
        x.addNode('m', 2, 9, 0);
        x.addNode('e', 1, 9, 0);
        int[][] links = {{0, 2}, {0, 1}, {1, 4}, {2, 3}, {3, 4}, {0, 6}, {6, 4}};
        for (int[] link : links) {
            x.link(link[0], link[1]);
        }
        Check.due("30: no bag", BOUNDS, () -> x.next(0));
        Check.due("31: no bag", BOUNDS, () -> x.wayCost(0));
        int bag = x.addBag(0, 1, 0, 'e');
        Check.due("31: 2 and 1, or 1 and 1 and 1", 3, x.wayCost(bag));
        Check.due("30: the lowest of two", 1, x.next(bag));
        x.link(0, 5);
        Check.due("30: a shorter one", 5, x.next(bag));
        Check.due("31: a shorter one", 2, x.wayCost(bag));
        x.setFault(5, true);
        Check.due("30: at fault", 1, x.next(bag));
        x.setFault(5, false);
        for (int i = 0; i < 2; i++) {
            x.carry(x.addBag(0, 1, 0, 'e'), 5);
        }
        Check.due("30: with bags on it", 1, x.next(bag));
        x.carry(x.addBag(0, 1, 0, 'e'), 1);
        Check.due("30: with bags on it", 2, x.next(bag));
        Check.due("31: with bags on it", 3, x.wayCost(bag));
        x.carry(x.addBag(0, 1, 0, 'e'), 4);
        Check.due("31: the last one's, too", 4, x.wayCost(bag));
        Check.due("30: of two as dear", 2, x.next(bag));
        x.setFault(3, true);
        x.setFault(1, true);
        x.setFault(5, true);
        Check.due("30: no way over a store", ELEMENT, () -> x.next(bag));
        Check.due("31: no way over a store", ELEMENT, () -> x.wayCost(bag));
        Check.due("30: as it wants", ELEMENT, () -> x.next(1));
        Check.due("31: as it wants", ELEMENT, () -> x.wayCost(1));
        Bagweave closed = closedFlight();
        Check.due("30: at the side", ELEMENT, () -> closed.next(0));
        Check.due("31: at the side", ELEMENT, () -> closed.wayCost(0));
    }

    private static void promise32() {
        Bagweave x = readyAirport();
        Check.due("32: no bag", BOUNDS, () -> x.waitsForVerdict(0));
        int bag = x.addBag(INPUT, 7, 0, 'e');
        Check.due("32: elsewhere", false, x.waitsForVerdict(bag));
        x.carry(bag, FIRST_SCREEN + 1);
        x.setFault(FIRST_SCREEN + 1, true);
        Check.due("32: level 2", false, x.waitsForVerdict(bag));
        x.carry(bag, READER);
        x.carry(bag, LAST_SCREEN);
        Check.due("32: ticks to do", false, x.waitsForVerdict(bag));
        x.tick(1);
        Check.due("32: waits", true, x.waitsForVerdict(bag));
        x.tick(5);
        Check.due("32: and stays", LAST_SCREEN, x.nodeOf(bag));
        x.verdict(bag, true);
        Check.due("32: no longer", false, x.waitsForVerdict(bag));
        x.tick(1);
        Check.due("32: goes on", BELT, x.nodeOf(bag));
    }

    private static void promises33And34() {
        Bagweave x = airport();
        for (int bad : new int[] {-1, 11, 20, Integer.MIN_VALUE}) {
            Check.due("33: node " + bad, BOUNDS, () -> x.onNode(bad));
            Check.due("34: node " + bad, BOUNDS, () -> x.bagOn(bad, -1));
        }
        Check.due("33: none", 0, x.onNode(INPUT));
        Check.due("34: none", ELEMENT, () -> x.bagOn(INPUT, 0));
        x.addBag(INPUT, 1, 0, 'e');
        x.addBag(INPUT, 2, 0, 'e');
        x.addBag(INPUT, 3, 0, 'e');
        Check.due("33: three", 3, x.onNode(INPUT));
        Check.due("34: first", 0, x.bagOn(INPUT, 0));
        Check.due("34: last", 2, x.bagOn(INPUT, 2));
        Check.due("34: behind", ELEMENT, () -> x.bagOn(INPUT, 3));
        Check.due("34: -1", ELEMENT, () -> x.bagOn(INPUT, -1));
        Check.due("34: most", ELEMENT, () -> x.bagOn(INPUT, Integer.MAX_VALUE));
        x.tick(1);
        Check.due("33: one went on", 2, x.onNode(INPUT));
        Check.due("34: the first one", 0, x.bagOn(READER, 0));
        Check.due("34: the next one", 1, x.bagOn(INPUT, 0));
        Check.due("34: gone", ELEMENT, () -> x.bagOn(INPUT, 2));
    }

    private static void promises35And36() {
        Bagweave x = readyAirport();
        x.addFlight(40);
        x.assign(1, CHUTE, -1);
        x.addUnit(1, 'f', 1);
        x.addUnit(1, 'e', 1);
        x.addUnit(1, 'e', 1);
        x.message(9, 1, 3);
        Check.due("35: no bag", BOUNDS, () -> x.unitOf(0));
        Check.due("36: no flight", BOUNDS, () -> x.loaded(2));
        Check.due("36: flight -1", BOUNDS, () -> x.loaded(-1));
        for (int i = 0; i < 3; i++) {
            load(x, x.addBag(INPUT, 9, 0, 'e'));
        }
        Check.due("35: the first with room", 11, x.unitOf(0));
        Check.due("35: the next one", 12, x.unitOf(1));
        Check.due("35: none has room", ELEMENT, () -> x.unitOf(2));
        Check.due("36: two", 2, x.loaded(1));
        Check.due("36: none", 0, x.loaded(0));
        x.tick(34);
        Check.due("36: flown", 2, x.loaded(1));
        Check.due("35: flown", ELEMENT, () -> x.unitOf(0));
        Check.due("22: flown", 'f', x.whereIs(0));
        Bagweave closed = closedFlight();
        Check.due("35: taken out", ELEMENT, () -> closed.unitOf(0));
        Check.due("36: one is left", 1, closed.loaded(0));
    }

    private static void promises37And38() {
        Bagweave x = closedFlight();
        Check.due("37: no flight", BOUNDS, () -> x.stateOf(1));
        Check.due("38: no flight", BOUNDS, () -> x.timeOf(1));
        Check.due("37: flight -1", BOUNDS, () -> x.stateOf(-1));
        Check.due("38: flight -1", BOUNDS, () -> x.timeOf(-1));
        Check.due("37: closed", 'l', x.stateOf(0));
        Check.due("38: 2 later for one", 22, x.timeOf(0));
        x.setOff(3, true);
        x.tick(1);
        Check.due("37: not before its time", 1, x.loaded(0));
        x.tick(1);
        Check.due("38: 2 later again", 24, x.timeOf(0));
        Check.due("37: still closed", 'l', x.stateOf(0));
        Check.due("36: none is left", 0, x.loaded(0));
        x.tick(2);
        Check.due("37: has left", 'd', x.stateOf(0));
        Check.due("38: its time", 24, x.timeOf(0));
        Check.due("37: open", 'o', airport().stateOf(0));
        twoAreTakenOut();
    }

    private static void twoAreTakenOut() {
        Bagweave x = readyAirport();
        load(x, x.addBag(INPUT, 7, 0, 'e'));
        load(x, x.addBag(INPUT, 7, 0, 'e'));
        x.setOff(3, true);
        x.tick(20 - x.ticks());
        Check.due("38: 2 later for each", 24, x.timeOf(0));
        Check.due("40: two", 2, x.takenOut());
    }

    private static void promise39() {
        Bagweave x = readyAirport();
        x.addFlight(40);
        Check.due("39: no bag", BOUNDS, () -> x.mayFly(0, 0));
        int bag = x.addBag(INPUT, 7, 0, 'e');
        Check.due("39: no flight", BOUNDS, () -> x.mayFly(bag, 2));
        Check.due("39: flight -1", BOUNDS, () -> x.mayFly(bag, -1));
        Check.due("39: not read, but its message counts", true, x.mayFly(bag, 0));
        Check.due("39: another flight", false, x.mayFly(bag, 1));
        x.setOff(3, true);
        Check.due("39: off", false, x.mayFly(bag, 0));
        x.setOff(3, false);
        x.setOff(5, true);
        Check.due("39: no group", true, x.mayFly(bag, 0));
        x.setGroup(5, 2);
        x.setGroup(3, 1);
        Check.due("39: another group", true, x.mayFly(bag, 0));
        x.setGroup(3, 2);
        Check.due("39: one of the group is off", false, x.mayFly(bag, 0));
        x.setOff(5, false);
        Check.due("39: none of the group is off", true, x.mayFly(bag, 0));
        x.message(7, 0, 4);
        Check.due("39: has not boarded", false, x.mayFly(bag, 0));
        int other = x.addBag(INPUT, 50, 0, 'e');
        Check.due("39: no message", false, x.mayFly(other, 0));
        x.rush(other);
        Check.due("39: rush", true, x.mayFly(other, 1));
        x.setReader(READER, 'w');
        x.message(7, 0, 3);
        x.message(8, 1, 3);
        x.carry(bag, READER);
        Check.due("39: of its own tag", true, x.mayFly(bag, 0));
        Check.due("39: not of the tag that was read", false, x.mayFly(bag, 1));
    }

    private static void promises40To42() {
        Bagweave x = closedFlight();
        Check.due("40: one", 1, x.takenOut());
        x.cancel(0);
        Check.due("40: and one of a cancelled flight", 2, x.takenOut());
        Check.due("42: two", 2, x.bags());
        Check.due("41: none", 0, x.rings());
        Bagweave ring = TickTest.stuckRing();
        ring.tick(1);
        Check.due("41: one", 1, ring.rings());
        ring.tick(2);
        Check.due("41: two", 2, ring.rings());
    }

    private static void promise43() {
        Bagweave x = new Bagweave();
        x.addNode('i', 1, 9, 0);
        x.addNode('s', 1, 9, 3);
        Check.due("43: no bag", BOUNDS, () -> x.textOf(0, 0));
        for (int i = 0; i < 8; i++) {
            x.addBag(0, 1, 0, 'e');
        }
        x.carry(0, 1);
        x.carry(1, 1);
        for (int i = 0; i < 3; i++) {
            x.addBag(0, 1, 0, 'e');
        }
        Check.due("43: one figure", "0nm", textOf(x, 0));
        Check.due("43: two figures", "10nm", textOf(x, 10));
        Check.due("43: -1", ELEMENT, () -> x.textOf(0, -1));
        Check.due("43: most", ELEMENT, () -> x.textOf(0, Integer.MAX_VALUE));
        x.tick(1);
        x.verdict(0, false);
        Check.due("43: on no node", "0x", textOf(x, 0));
        Bagweave closed = closedFlight();
        Check.due("43: at the side", "0s", textOf(closed, 0));
        Check.due("43: in a unit", "1u", textOf(closed, 1));
        closed.tick(2);
        Check.due("43: flown", "1f", textOf(closed, 1));
        closed.carry(0, BELT);
        Check.due("43: to problems", "0nq", textOf(closed, 0));
    }

    private static String textOf(Bagweave x, int bag) {
        StringBuilder text = new StringBuilder();
        for (int i = 0; i < 9; i++) {
            try {
                text.append(x.textOf(bag, i));
            } catch (NoSuchElementException e) {
                return text.toString();
            }
        }
        return text.toString();
    }

    private static void promise44() {
        Bagweave x = readyAirport();
        int bag = x.addBag(INPUT, 7, 0, 'e');
        Check.due("44: brought", 1L, x.moves());
        x.carry(bag, READER);
        Check.due("44: carried", 2L, x.moves());
        x.tick(1);
        Check.due("44: went on", 3L, x.moves());
        x.carry(bag, CHUTE);
        x.tick(1);
        Check.due("44: screened late", false, x.isClear(bag));
        Check.due("44: a unit is no node", 4L, x.moves());
        Bagweave ring = TickTest.stuckRing();
        long before = ring.moves();
        ring.tick(1);
        Check.due("44: a ring of three", before + 3, ring.moves());
        Bagweave loaded = readyAirport();
        load(loaded, loaded.addBag(INPUT, 7, 0, 'e'));
        Check.due("44: input, reader, screening, belt, chute", 5L, loaded.moves());
        loaded.tick(20);
        Check.due("44: a flight is none", 5L, loaded.moves());
    }

    private static void promises45And46() {
        Bagweave none = new Bagweave();
        Check.due("45: no bags", ARITHMETIC, () -> none.flownShare());
        Check.due("46: no nodes", ARITHMETIC, () -> none.meanOnNode());
        Bagweave x = closedFlight();
        Check.due("45: none", 0.0f, x.flownShare());
        Check.due("46: none", 0.0, x.meanOnNode());
        x.carry(0, BELT);
        x.addBag(INPUT, 1, 0, 'e');
        Check.due("46: two on eleven", 2.0 / 11.0, x.meanOnNode());
        x.tick(2);
        Check.due("45: one of three", 1.0f / 3.0f, x.flownShare());
        Bagweave node = new Bagweave();
        node.addNode('i', 1, 1, 0);
        Check.due("46: a node", 0.0, node.meanOnNode());
        Check.due("45: still no bags", ARITHMETIC, () -> node.flownShare());
    }

    private static void promise47() {
        Bagweave x = closedFlight();
        Check.due("47: with one at the side", true, x.isSound());
        x.addBag(INPUT, 7, 0, 'e');
        x.tick(2);
        Check.due("47: with one flown", true, x.isSound());
        x.setOff(3, true);
        Check.due("47: it was allowed to when it left", true, x.isSound());
    }
}
