import java.util.NoSuchElementException;

/**
 * Each call that is refused: for each exception of each promise the boundary cases, the numbers beside those allowed
 * first; of several exceptions that apply, the one that is listed first; and that a call that is refused changes nothing.
 */
public final class RefusalsTest {
    private static final Class<IndexOutOfBoundsException> BOUNDS = IndexOutOfBoundsException.class;
    private static final Class<IllegalArgumentException> ARGUMENT = IllegalArgumentException.class;
    private static final Class<IllegalStateException> STATE = IllegalStateException.class;
    private static final Class<UnsupportedOperationException> SUPPORT = UnsupportedOperationException.class;
    private static final Class<NoSuchElementException> ELEMENT = NoSuchElementException.class;
    private static final Class<ArithmeticException> ARITHMETIC = ArithmeticException.class;

    private static final int INPUT = 0;
    private static final int READER = 1;
    private static final int FIRST_SCREEN = 2;
    private static final int LAST_SCREEN = 4;
    private static final int BELT = 5;
    private static final int CHUTE = 6;
    private static final int OVERFLOW = 7;
    private static final int CODING = 8;
    private static final int STORE = 9;
    private static final int PROBLEMS = 10;
    private static final int FULL_INPUT = 11;
    private static final int FAULTY_BELT = 12;
    private static final int FAULTY_INPUT = 13;
    private static final int NODES = 14;

    private static final int OPEN = 0;
    private static final int CLOSED = 1;
    private static final int LEFT = 2;
    private static final int CANCELLED = 3;
    private static final int FLIGHTS = 4;

    private static final int FLOWN = 0;
    private static final int ASIDE = 1;
    private static final int IN_UNIT = 2;
    private static final int TAKEN_OUT = 3;
    private static final int WAITS = 4;
    private static final int ON_FULL_INPUT = 5;
    private static final int ON_BELT = 6;
    private static final int BAGS = 7;

    private static final int NOW = 10;
    private static final int LEAST = Integer.MIN_VALUE;
    private static final int MOST = Integer.MAX_VALUE;

    /** Makes an object, always the same. */
    private interface Setup {
        Bagweave make();
    }

    private interface Act {
        Object on(Bagweave x);
    }

    private RefusalsTest() {
    }

    public static void main(String[] args) {
        busyAirportIsAsMeant();
        addNode();
        link();
        setReader();
        setFault();
        addFlight();
        setTime();
        cancel();
        assign();
        addUnit();
        setEarly();
        message();
        passengers();
        addBag();
        rush();
        verdict();
        carry();
        tick();
        questionsOfBags();
        questionsOfPlacesOfBags();
        questionsOfWays();
        questionsOfNodesAndFlights();
        textOf();
        meansAndShares();
        Check.end();
    }

    /** The call throws just this exception, and all that can be seen and done is as without it. */
    private static void refused(String what, Class<? extends RuntimeException> due, Setup setup, Act act) {
        Bagweave x = setup.make();
        Check.due(what, due, () -> act.on(x));
        for (int part = 0; part < Probe.PARTS; part++) {
            Bagweave touched = setup.make();
            Check.answerOf(() -> act.on(touched));
            String want = Probe.tell(setup.make(), part);
            Check.due(what + ": changes nothing, part " + part, want, Probe.tell(touched, part));
        }
    }

    private static void refused(String what, Class<? extends RuntimeException> due, Act act) {
        refused(what, due, RefusalsTest::busy, act);
    }

    /** All kinds of nodes, one full and two at fault, a flight of each state, and a bag at each kind of place. */
    private static Bagweave busy() {
        Bagweave x = Nets.bare("i13 r13 s131 s132 s133 b13 c12 c12 m13 e13 q13 i11 b13 i13");
        int[][] links = {{0, 1}, {1, 2}, {1, 8}, {2, 3}, {3, 4}, {2, 5}, {3, 5}, {4, 5}, {5, 6}, {5, 9}, {5, 10}, {5, 7},
            {8, 2}, {12, 8}};
        for (int[] link : links) {
            x.link(link[0], link[1]);
        }
        for (int time : new int[] {40, NOW, NOW, 90}) {
            int flight = x.addFlight(time);
            x.assign(flight, CHUTE, OVERFLOW);
            x.addUnit(flight, 'e', 2);
            x.message(flight, flight, flight);
        }
        x.board(OPEN);
        x.board(LEFT);
        loadClear(x, LEFT);
        loadClear(x, CLOSED);
        loadClear(x, OPEN);
        x.carry(x.addBag(INPUT, 50, 1, 'f'), LAST_SCREEN);
        x.tick(1);
        x.verdict(TAKEN_OUT, false);
        x.cancel(CANCELLED);
        x.carry(x.addBag(INPUT, OPEN, 3, 'f'), READER);
        x.carry(WAITS, FIRST_SCREEN);
        x.tick(3);
        x.addBag(FULL_INPUT, 60, 0, 't');
        x.carry(x.addBag(INPUT, OPEN, 0, 'e'), BELT);
        setSome(x);
        return x;
    }

    private static void loadClear(Bagweave x, int tag) {
        int bag = x.addBag(INPUT, tag, 0, 'e');
        x.carry(bag, READER);
        x.carry(bag, FIRST_SCREEN);
        x.tick(1);
        x.carry(bag, CHUTE);
        x.tick(1);
    }

    private static void setSome(Bagweave x) {
        x.setFault(FAULTY_BELT, true);
        x.setFault(FAULTY_INPUT, true);
        x.setReader(READER, 'w');
        x.setEarly(25);
        x.setOff(39, true);
        x.setGroup(39, 9);
        x.setGroup(OPEN, 8);
        x.rush(ON_BELT);
    }

    private static void busyAirportIsAsMeant() {
        Bagweave x = busy();
        Check.due("the tick", NOW, x.ticks());
        Check.due("places", "f s u x 4 11 5", Nets.places(x));
        Check.due("nodes", 0, x.onNode(NODES - 1));
        Check.due("bags", BAGS, x.bags());
        StringBuilder states = new StringBuilder();
        for (int flight = 0; flight < FLIGHTS; flight++) {
            states.append(x.stateOf(flight));
        }
        Check.due("flights", "oldc", states.toString());
        Check.due("the one that waits", true, x.waitsForVerdict(WAITS));
        for (int part = 0; part < Probe.PARTS; part++) {
            Check.due("made alike", Probe.tell(busy(), part), Probe.tell(busy(), part));
        }
    }

    // ---- 2 to 5: the net ----

    private static Bagweave twentyNodes() {
        return Nets.bare("b11 ".repeat(20));
    }

    private static void addNode() {
        for (int kind = 0; kind <= Character.MAX_VALUE; kind++) {
            if ("ibrsmecq".indexOf(kind) < 0) {
                char none = (char) kind;
                Check.due("2: kind " + kind, ARGUMENT, () -> new Bagweave().addNode(none, 1, 1, 1));
            }
        }
        refused("2: no kind", ARGUMENT, x -> x.addNode('d', 1, 1, 1));
        for (int bad : new int[] {0, 10, -1, LEAST, MOST}) {
            for (char kind : "ibrsmecq".toCharArray()) {
                Check.due("2: length " + bad + " of " + kind, ARGUMENT, () -> new Bagweave().addNode(kind, bad, 1, 1));
                Check.due("2: room " + bad + " of " + kind, ARGUMENT, () -> new Bagweave().addNode(kind, 1, bad, 1));
            }
            refused("2: length " + bad, ARGUMENT, x -> x.addNode('b', bad, 1, 1));
            refused("2: room " + bad, ARGUMENT, x -> x.addNode('b', 1, bad, 1));
        }
        for (int bad : new int[] {0, 4, -1, LEAST, MOST}) {
            refused("2: level " + bad, ARGUMENT, x -> x.addNode('s', 1, 1, bad));
        }
        refused("2: the 21st node", STATE, RefusalsTest::twentyNodes, x -> x.addNode('i', 1, 1, 0));
        refused("2: the 21st, no kind", ARGUMENT, RefusalsTest::twentyNodes, x -> x.addNode('x', 1, 1, 0));
        refused("2: the 21st, length 0", ARGUMENT, RefusalsTest::twentyNodes, x -> x.addNode('i', 0, 1, 0));
        refused("2: the 21st, room 10", ARGUMENT, RefusalsTest::twentyNodes, x -> x.addNode('i', 1, 10, 0));
        refused("2: the 21st, level 4", ARGUMENT, RefusalsTest::twentyNodes, x -> x.addNode('s', 1, 1, 4));
    }

    private static Bagweave fourLinks() {
        Bagweave x = Nets.bare("i11 b11 b11 b11 b11 b11 q11 i11");
        for (int to = 1; to <= 4; to++) {
            x.link(0, to);
        }
        return x;
    }

    private static void link() {
        for (int none : new int[] {-1, NODES, 20, LEAST, MOST}) {
            refused("3: from " + none, BOUNDS, x -> x.link(none, BELT));
            refused("3: to " + none, BOUNDS, x -> x.link(BELT, none));
            refused("3: both " + none + ", the same", BOUNDS, x -> x.link(none, none));
            refused("3: " + none + " to an input", BOUNDS, x -> x.link(none, INPUT));
            refused("3: problems to " + none, BOUNDS, x -> x.link(PROBLEMS, none));
        }
        for (int i = 0; i < NODES; i++) {
            int node = i;
            refused("3: to itself, " + node, ARGUMENT, x -> x.link(node, node));
        }
        refused("3: it leads there", ARGUMENT, x -> x.link(CODING, FIRST_SCREEN));
        refused("3: from problems", ARGUMENT, x -> x.link(PROBLEMS, BELT));
        refused("3: to an input", ARGUMENT, x -> x.link(CODING, INPUT));
        refused("3: from an input to another one", ARGUMENT, x -> x.link(INPUT, FULL_INPUT));
        refused("3: from problems to an input", ARGUMENT, x -> x.link(PROBLEMS, INPUT));
        refused("3: the 5th", STATE, RefusalsTest::fourLinks, x -> x.link(0, 5));
        refused("3: the 5th, to problems", STATE, RefusalsTest::fourLinks, x -> x.link(0, 6));
        refused("3: the 5th, to none", BOUNDS, RefusalsTest::fourLinks, x -> x.link(0, 8));
        refused("3: the 5th, to itself", ARGUMENT, RefusalsTest::fourLinks, x -> x.link(0, 0));
        for (int i = 1; i <= 4; i++) {
            int to = i;
            refused("3: the 5th, it leads there, " + to, ARGUMENT, RefusalsTest::fourLinks, x -> x.link(0, to));
        }
        refused("3: the 5th, to an input", ARGUMENT, RefusalsTest::fourLinks, x -> x.link(0, 7));
    }

    private static void setReader() {
        for (int none : new int[] {-1, NODES, 20, LEAST, MOST}) {
            refused("4: node " + none, BOUNDS, x -> x.setReader(none, 'o'));
            refused("4: node " + none + ", no way", BOUNDS, x -> x.setReader(none, 'x'));
        }
        for (int how = 0; how <= Character.MAX_VALUE; how++) {
            if (how != 'o' && how != 'w' && how != 'm') {
                char none = (char) how;
                Bagweave x = new Bagweave();
                x.addNode('r', 1, 1, 0);
                Check.due("4: how " + how, ARGUMENT, () -> x.setReader(0, none));
            }
        }
        refused("4: no way", ARGUMENT, x -> x.setReader(READER, 'r'));
        for (int i = 0; i < NODES; i++) {
            int node = i;
            if (node != READER) {
                refused("4: no reader, " + node, SUPPORT, x -> x.setReader(node, 'm'));
                refused("4: no reader, no way, " + node, ARGUMENT, x -> x.setReader(node, 'M'));
            }
        }
    }

    private static void setFault() {
        for (int none : new int[] {-1, NODES, 20, LEAST, MOST}) {
            refused("5: node " + none, BOUNDS, x -> x.setFault(none, true));
            refused("5: node " + none, BOUNDS, x -> x.setFault(none, false));
        }
    }

    // ---- 6 to 11: flights ----

    private static Bagweave tenFlights() {
        Bagweave x = new Bagweave();
        for (int i = 0; i < 10; i++) {
            x.addFlight(9);
        }
        return x;
    }

    private static void addFlight() {
        for (int bad : new int[] {NOW, NOW - 1, 0, -1, 10000, LEAST, MOST}) {
            refused("6: time " + bad, ARGUMENT, x -> x.addFlight(bad));
        }
        refused("6: the time 0 at first", ARGUMENT, Bagweave::new, x -> x.addFlight(0));
        refused("6: the 11th flight", STATE, RefusalsTest::tenFlights, x -> x.addFlight(8));
        refused("6: the 11th, now", ARGUMENT, RefusalsTest::tenFlights, x -> x.addFlight(0));
        refused("6: the 11th, too late", ARGUMENT, RefusalsTest::tenFlights, x -> x.addFlight(10000));
    }

    private static void setTime() {
        for (int none : new int[] {-1, FLIGHTS, 10, LEAST, MOST}) {
            refused("7: flight " + none, BOUNDS, x -> x.setTime(none, 50));
            refused("7: flight " + none + ", no time", BOUNDS, x -> x.setTime(none, NOW));
        }
        for (int bad : new int[] {NOW, NOW - 1, 0, -1, 10000, LEAST, MOST}) {
            for (int i = 0; i < FLIGHTS; i++) {
                int flight = i;
                refused("7: time " + bad + " of flight " + flight, ARGUMENT, x -> x.setTime(flight, bad));
            }
        }
        refused("7: it has left", SUPPORT, x -> x.setTime(LEFT, NOW + 1));
        refused("7: it is cancelled", SUPPORT, x -> x.setTime(CANCELLED, 9999));
    }

    private static void cancel() {
        for (int none : new int[] {-1, FLIGHTS, 10, LEAST, MOST}) {
            refused("8: flight " + none, BOUNDS, x -> x.cancel(none));
        }
        refused("8: it has left", SUPPORT, x -> x.cancel(LEFT));
        refused("8: it is cancelled", SUPPORT, x -> x.cancel(CANCELLED));
    }

    private static void assign() {
        for (int none : new int[] {-1, FLIGHTS, 10, LEAST, MOST}) {
            refused("9: flight " + none, BOUNDS, x -> x.assign(none, CHUTE, OVERFLOW));
            refused("9: flight " + none + ", no chute, both the same", BOUNDS, x -> x.assign(none, BELT, BELT));
        }
        for (int none : new int[] {-1, NODES, 20, LEAST, MOST}) {
            refused("9: chute " + none, BOUNDS, x -> x.assign(OPEN, none, OVERFLOW));
            refused("9: chute " + none + ", no overflow", BOUNDS, x -> x.assign(OPEN, none, -1));
            refused("9: chute " + none + ", the other a belt", BOUNDS, x -> x.assign(OPEN, none, BELT));
            refused("9: chute " + none + ", it has left", BOUNDS, x -> x.assign(LEFT, none, OVERFLOW));
        }
        for (int none : new int[] {-2, NODES, 20, LEAST, MOST}) {
            refused("9: overflow " + none, BOUNDS, x -> x.assign(OPEN, CHUTE, none));
            refused("9: overflow " + none + ", no chute", BOUNDS, x -> x.assign(OPEN, BELT, none));
            refused("9: overflow " + none + ", cancelled", BOUNDS, x -> x.assign(CANCELLED, CHUTE, none));
        }
        for (int i = 0; i < NODES; i++) {
            int node = i;
            if (node != CHUTE && node != OVERFLOW) {
                refused("9: no chute, " + node, ARGUMENT, x -> x.assign(OPEN, node, -1));
                refused("9: overflow no chute, " + node, ARGUMENT, x -> x.assign(OPEN, CHUTE, node));
            }
        }
        refused("9: both the same", ARGUMENT, x -> x.assign(OPEN, CHUTE, CHUTE));
        refused("9: both the same, it has left", ARGUMENT, x -> x.assign(LEFT, CHUTE, CHUTE));
        refused("9: no chute, it has left", ARGUMENT, x -> x.assign(LEFT, BELT, OVERFLOW));
        refused("9: overflow no chute, cancelled", ARGUMENT, x -> x.assign(CANCELLED, CHUTE, STORE));
        refused("9: it has left", SUPPORT, x -> x.assign(LEFT, OVERFLOW, -1));
        refused("9: it is cancelled", SUPPORT, x -> x.assign(CANCELLED, OVERFLOW, CHUTE));
    }

    /** The four units of the flight 3 are full, and a fifth bag waits at the chute. */
    private static Bagweave fourUnits() {
        Bagweave x = Nets.of("c19", "");
        for (int i = 0; i < 4; i++) {
            x.addFlight(90);
        }
        for (int i = 0; i < 4; i++) {
            x.addUnit(3, 'e', 1);
        }
        x.message(1, 3, 0);
        for (int bag = 0; bag < 5; bag++) {
            Nets.clear(x, 1, 'e');
            x.carry(bag, Nets.OWN);
        }
        return x;
    }

    private static void addUnit() {
        for (int none : new int[] {-1, FLIGHTS, 10, LEAST, MOST}) {
            refused("10: flight " + none, BOUNDS, x -> x.addUnit(none, 'e', 1));
            refused("10: flight " + none + ", no class, room 0", BOUNDS, x -> x.addUnit(none, 'x', 0));
        }
        for (int sort = 0; sort <= Character.MAX_VALUE; sort++) {
            if (sort != 'f' && sort != 'e' && sort != 't') {
                char none = (char) sort;
                Bagweave x = new Bagweave();
                x.addFlight(1);
                Check.due("10: class " + sort, ARGUMENT, () -> x.addUnit(0, none, 1));
            }
        }
        refused("10: no class", ARGUMENT, x -> x.addUnit(OPEN, 'g', 1));
        for (int bad : new int[] {0, 10, -1, LEAST, MOST}) {
            refused("10: room " + bad, ARGUMENT, x -> x.addUnit(OPEN, 'e', bad));
            refused("10: room " + bad + ", closed", ARGUMENT, x -> x.addUnit(CLOSED, 'e', bad));
            refused("10: room " + bad + ", the 5th", ARGUMENT, RefusalsTest::fourUnits, x -> x.addUnit(3, 'e', bad));
        }
        refused("10: closed", SUPPORT, x -> x.addUnit(CLOSED, 'e', 1));
        refused("10: it has left", SUPPORT, x -> x.addUnit(LEFT, 'f', 9));
        refused("10: cancelled", SUPPORT, x -> x.addUnit(CANCELLED, 't', 1));
        refused("10: it has left, no class", ARGUMENT, x -> x.addUnit(LEFT, 'F', 9));
        refused("10: the 5th unit", STATE, RefusalsTest::fourUnits, x -> x.addUnit(3, 't', 1));
        refused("10: the 5th, no class", ARGUMENT, RefusalsTest::fourUnits, x -> x.addUnit(3, 'x', 1));
        refused("10: the 5th, cancelled", SUPPORT, RefusalsTest::fourUnitsCancelled, x -> x.addUnit(3, 't', 1));
    }

    private static Bagweave fourUnitsCancelled() {
        Bagweave x = fourUnits();
        x.cancel(3);
        return x;
    }

    private static void setEarly() {
        for (int bad : new int[] {-1, 1000, LEAST, MOST}) {
            refused("11: " + bad, ARGUMENT, x -> x.setEarly(bad));
        }
    }

    // ---- 12 to 15: messages and passengers ----

    private static void message() {
        for (int bad : new int[] {-1, 100, LEAST, MOST}) {
            refused("12: tag " + bad, ARGUMENT, x -> x.message(bad, OPEN, 0));
            refused("12: tag " + bad + ", no flight", ARGUMENT, x -> x.message(bad, FLIGHTS, 0));
        }
        for (int bad : new int[] {-1, 40, LEAST, MOST}) {
            refused("12: passenger " + bad, ARGUMENT, x -> x.message(OPEN, OPEN, bad));
            refused("12: passenger " + bad + ", no flight", ARGUMENT, x -> x.message(OPEN, -1, bad));
            refused("12: passenger " + bad + ", a new tag", ARGUMENT, x -> x.message(99, OPEN, bad));
        }
        for (int none : new int[] {-1, FLIGHTS, 10, LEAST, MOST}) {
            refused("12: flight " + none, BOUNDS, x -> x.message(OPEN, none, 39));
            refused("12: flight " + none + ", a new tag", BOUNDS, x -> x.message(99, none, 39));
        }
    }

    private static void passengers() {
        for (int bad : new int[] {-1, 40, LEAST, MOST}) {
            refused("13: passenger " + bad, ARGUMENT, x -> x.board(bad));
            refused("14: passenger " + bad, ARGUMENT, x -> x.setOff(bad, true));
            refused("14: passenger " + bad, ARGUMENT, x -> x.setOff(bad, false));
            refused("15: passenger " + bad, ARGUMENT, x -> x.setGroup(bad, 1));
            refused("15: passenger " + bad + ", no group", ARGUMENT, x -> x.setGroup(bad, 10));
        }
        for (int bad : new int[] {-1, 10, LEAST, MOST}) {
            refused("15: group " + bad, ARGUMENT, x -> x.setGroup(39, bad));
            refused("15: group " + bad, ARGUMENT, x -> x.setGroup(0, bad));
        }
    }

    // ---- 16 to 20: bags and ticks ----

    /** The bag 49 is the last one; the input 5 has room for four more, 6 is full, 7 is at fault. */
    private static Bagweave fiftyBags() {
        Bagweave x = Nets.bare("i19 i19 i19 i19 i19 i19 i11 i19 b19");
        for (int i = 0; i < 49; i++) {
            x.addBag(i / 9, i, 0, 't');
        }
        x.addBag(6, 49, 0, 't');
        x.setFault(7, true);
        return x;
    }

    private static void addBag() {
        for (int none : new int[] {-1, NODES, 20, LEAST, MOST}) {
            refused("16: node " + none, BOUNDS, x -> x.addBag(none, 1, 0, 'e'));
            refused("16: node " + none + ", no tag", BOUNDS, x -> x.addBag(none, -1, 0, 'e'));
        }
        for (int i = 0; i < NODES; i++) {
            int node = i;
            if (node != INPUT && node != FULL_INPUT && node != FAULTY_INPUT) {
                refused("16: no input, " + node, ARGUMENT, x -> x.addBag(node, 1, 0, 'e'));
            }
        }
        for (int i : new int[] {INPUT, FULL_INPUT, FAULTY_INPUT}) {
            int node = i;
            for (int bad : new int[] {-1, 100, LEAST, MOST}) {
                refused("16: tag " + bad + " at " + node, ARGUMENT, x -> x.addBag(node, bad, 0, 'e'));
            }
            for (int bad : new int[] {-1, 4, LEAST, MOST}) {
                refused("16: suspicion " + bad + " at " + node, ARGUMENT, x -> x.addBag(node, 1, bad, 'e'));
            }
            refused("16: no class at " + node, ARGUMENT, x -> x.addBag(node, 1, 0, 'g'));
        }
        for (int sort = 0; sort <= Character.MAX_VALUE; sort++) {
            if (sort != 'f' && sort != 'e' && sort != 't') {
                char none = (char) sort;
                Bagweave x = new Bagweave();
                x.addNode('i', 1, 1, 0);
                Check.due("16: class " + sort, ARGUMENT, () -> x.addBag(0, 0, 0, none));
            }
        }
        refused("16: full", SUPPORT, x -> x.addBag(FULL_INPUT, 1, 0, 'e'));
        refused("16: at fault", SUPPORT, x -> x.addBag(FAULTY_INPUT, 1, 0, 'e'));
        refused("16: the 51st bag", STATE, RefusalsTest::fiftyBags, x -> x.addBag(5, 1, 0, 'e'));
        refused("16: the 51st, full", SUPPORT, RefusalsTest::fiftyBags, x -> x.addBag(6, 1, 0, 'e'));
        refused("16: the 51st, at fault", SUPPORT, RefusalsTest::fiftyBags, x -> x.addBag(7, 1, 0, 'e'));
        refused("16: the 51st, no input", ARGUMENT, RefusalsTest::fiftyBags, x -> x.addBag(8, 1, 0, 'e'));
        refused("16: the 51st, suspicion 4", ARGUMENT, RefusalsTest::fiftyBags, x -> x.addBag(5, 1, 4, 'e'));
        refused("16: the 51st, no node", BOUNDS, RefusalsTest::fiftyBags, x -> x.addBag(9, 1, 0, 'e'));
    }

    private static void rush() {
        for (int none : new int[] {-1, BAGS, 50, LEAST, MOST}) {
            refused("17: bag " + none, BOUNDS, x -> x.rush(none));
        }
        refused("17: bag 50 of fifty", BOUNDS, RefusalsTest::fiftyBags, x -> x.rush(50));
    }

    /** The bag 0 was found clear at the screening 4 of level 3, and has no way on; the bag 1 has a tick to do there. */
    private static Bagweave clearedAtLastScreen() {
        Bagweave x = Nets.of("s193 s191 s192", "");
        x.carry(x.addBag(Nets.INPUT, 1, 0, 'e'), 4);
        x.tick(1);
        x.verdict(0, true);
        x.carry(x.addBag(Nets.INPUT, 1, 0, 'e'), 4);
        return x;
    }

    private static void verdict() {
        for (boolean is : new boolean[] {true, false}) {
            for (int none : new int[] {-1, BAGS, 50, LEAST, MOST}) {
                refused("18: bag " + none, BOUNDS, x -> x.verdict(none, is));
            }
            for (int i = 0; i < BAGS; i++) {
                int bag = i;
                if (bag != WAITS) {
                    refused("18: it does not wait, " + bag, SUPPORT, x -> x.verdict(bag, is));
                }
            }
            refused("18: clear already", SUPPORT, RefusalsTest::clearedAtLastScreen, x -> x.verdict(0, is));
            refused("18: a tick to do", SUPPORT, RefusalsTest::clearedAtLastScreen, x -> x.verdict(1, is));
            for (int level = 1; level <= 2; level++) {
                int screen = Nets.FIRST_SCREEN - 1 + level;
                Setup passed = () -> passedAt(screen);
                refused("18: at level " + level, SUPPORT, passed, x -> x.verdict(0, is));
            }
        }
    }

    private static Bagweave passedAt(int screen) {
        Bagweave x = Nets.of("b19", "");
        x.addFlight(90);
        x.message(1, 0, 0);
        Nets.read(x, 1, 3, screen);
        x.tick(2);
        return x;
    }

    private static void carry() {
        for (int none : new int[] {-1, BAGS, 50, LEAST, MOST}) {
            refused("19: bag " + none, BOUNDS, x -> x.carry(none, CODING));
            refused("19: bag " + none + ", no node", BOUNDS, x -> x.carry(none, none));
            refused("19: bag " + none + ", full", BOUNDS, x -> x.carry(none, FULL_INPUT));
        }
        for (int none : new int[] {-1, NODES, 20, LEAST, MOST}) {
            for (int i = 0; i < BAGS; i++) {
                int bag = i;
                refused("19: bag " + bag + ", node " + none, BOUNDS, x -> x.carry(bag, none));
            }
        }
        for (int i : new int[] {FLOWN, IN_UNIT, TAKEN_OUT}) {
            int bag = i;
            refused("19: neither on a node nor aside, " + bag, SUPPORT, x -> x.carry(bag, CODING));
            refused("19: the same, full, " + bag, SUPPORT, x -> x.carry(bag, FULL_INPUT));
            refused("19: the same, at fault, " + bag, SUPPORT, x -> x.carry(bag, FAULTY_BELT));
        }
        refused("19: it is there", SUPPORT, x -> x.carry(ON_BELT, BELT));
        refused("19: it is there, waiting", SUPPORT, x -> x.carry(WAITS, LAST_SCREEN));
        refused("19: it is there, full", SUPPORT, x -> x.carry(ON_FULL_INPUT, FULL_INPUT));
        refused("19: it is there, at fault", SUPPORT, RefusalsTest::onFaultyBelt, x -> x.carry(ON_BELT, BELT));
        for (int i : new int[] {ASIDE, WAITS, ON_BELT}) {
            int bag = i;
            refused("19: full, " + bag, STATE, x -> x.carry(bag, FULL_INPUT));
            refused("19: at fault, " + bag, STATE, x -> x.carry(bag, FAULTY_BELT));
        }
    }

    private static Bagweave onFaultyBelt() {
        Bagweave x = busy();
        x.setFault(BELT, true);
        return x;
    }

    private static void tick() {
        for (int bad : new int[] {0, -1, 61, LEAST, MOST}) {
            refused("20: " + bad, ARGUMENT, x -> x.tick(bad));
            refused("20: " + bad + " at first", ARGUMENT, Bagweave::new, x -> x.tick(bad));
        }
    }

    // ---- 22 to 47: questions ----

    private static void questionsOfBags() {
        for (int none : new int[] {-1, BAGS, 50, LEAST, MOST}) {
            refused("22: bag " + none, BOUNDS, x -> x.whereIs(none));
            refused("23: bag " + none, BOUNDS, x -> x.nodeOf(none));
            refused("24: bag " + none, BOUNDS, x -> x.left(none));
            refused("25: bag " + none, BOUNDS, x -> x.readTag(none));
            refused("26: bag " + none, BOUNDS, x -> x.flightOf(none));
            refused("27: bag " + none, BOUNDS, x -> x.isClear(none));
            refused("28: bag " + none, BOUNDS, x -> x.level(none));
            refused("29: bag " + none, BOUNDS, x -> x.goal(none));
            refused("30: bag " + none, BOUNDS, x -> x.next(none));
            refused("31: bag " + none, BOUNDS, x -> x.wayCost(none));
            refused("32: bag " + none, BOUNDS, x -> x.waitsForVerdict(none));
            refused("35: bag " + none, BOUNDS, x -> x.unitOf(none));
            refused("39: bag " + none, BOUNDS, x -> x.mayFly(none, OPEN));
            refused("39: bag " + none + ", no flight", BOUNDS, x -> x.mayFly(none, FLIGHTS));
            refused("43: bag " + none, BOUNDS, x -> x.textOf(none, 0));
            refused("43: bag " + none + ", no letter", BOUNDS, x -> x.textOf(none, -1));
        }
        for (int none : new int[] {-1, FLIGHTS, 10, LEAST, MOST}) {
            refused("39: flight " + none, BOUNDS, x -> x.mayFly(IN_UNIT, none));
            refused("39: flight " + none + " of a rush one", BOUNDS, x -> x.mayFly(ON_BELT, none));
        }
    }

    private static void questionsOfPlacesOfBags() {
        for (int i : new int[] {FLOWN, ASIDE, IN_UNIT, TAKEN_OUT}) {
            int bag = i;
            refused("23: on none, " + bag, ELEMENT, x -> x.nodeOf(bag));
            refused("24: on none, " + bag, ELEMENT, x -> x.left(bag));
            refused("29: on none, " + bag, ELEMENT, x -> x.goal(bag));
            refused("30: on none, " + bag, ELEMENT, x -> x.next(bag));
            refused("31: on none, " + bag, ELEMENT, x -> x.wayCost(bag));
        }
        for (int i : new int[] {FLOWN, ASIDE, TAKEN_OUT, WAITS, ON_FULL_INPUT, ON_BELT}) {
            int bag = i;
            refused("35: in none, or flown, " + bag, ELEMENT, x -> x.unitOf(bag));
        }
        for (int i : new int[] {TAKEN_OUT, ON_FULL_INPUT, ON_BELT}) {
            int bag = i;
            refused("25: not read, " + bag, ELEMENT, x -> x.readTag(bag));
            refused("26: not read, " + bag, ELEMENT, x -> x.flightOf(bag));
        }
        Setup noMessage = () -> {
            Bagweave x = busy();
            x.addBag(INPUT, 99, 0, 'e');
            x.setReader(READER, 'o');
            x.carry(BAGS, READER);
            return x;
        };
        Check.due("25: read, and no message", 99, noMessage.make().readTag(BAGS));
        refused("26: read, and no message", ELEMENT, noMessage, x -> x.flightOf(BAGS));
    }

    private static void questionsOfWays() {
        refused("30: it has what it wants", ELEMENT, x -> x.next(WAITS));
        refused("31: it has what it wants", ELEMENT, x -> x.wayCost(WAITS));
        refused("30: no way", ELEMENT, x -> x.next(ON_BELT));
        refused("31: no way", ELEMENT, x -> x.wayCost(ON_BELT));
        Setup behindFault = () -> {
            Bagweave x = busy();
            x.carry(ASIDE, BELT);
            x.setFault(PROBLEMS, true);
            return x;
        };
        refused("30: the only way's end is at fault", ELEMENT, behindFault, x -> x.next(ASIDE));
        refused("31: the only way's end is at fault", ELEMENT, behindFault, x -> x.wayCost(ASIDE));
    }

    private static void questionsOfNodesAndFlights() {
        for (int none : new int[] {-1, NODES, 20, LEAST, MOST}) {
            refused("33: node " + none, BOUNDS, x -> x.onNode(none));
            refused("34: node " + none, BOUNDS, x -> x.bagOn(none, 0));
            refused("34: node " + none + ", no bag", BOUNDS, x -> x.bagOn(none, -1));
        }
        for (int none : new int[] {-1, 1, 2, 3, LEAST, MOST}) {
            refused("34: index " + none, ELEMENT, x -> x.bagOn(BELT, none));
            refused("34: index " + none + " of a full one", ELEMENT, x -> x.bagOn(FULL_INPUT, none));
        }
        refused("34: index 0 of an empty one", ELEMENT, x -> x.bagOn(INPUT, 0));
        for (int none : new int[] {-1, FLIGHTS, 10, LEAST, MOST}) {
            refused("36: flight " + none, BOUNDS, x -> x.loaded(none));
            refused("37: flight " + none, BOUNDS, x -> x.stateOf(none));
            refused("38: flight " + none, BOUNDS, x -> x.timeOf(none));
        }
    }

    private static void textOf() {
        for (int i = 0; i < BAGS; i++) {
            int bag = i;
            int length = bag == WAITS || bag == ON_FULL_INPUT || bag == ON_BELT ? 3 : 2;
            for (int none : new int[] {-1, length, length + 1, LEAST, MOST}) {
                refused("43: letter " + none + " of bag " + bag, ELEMENT, x -> x.textOf(bag, none));
            }
        }
        for (int none : new int[] {-1, 4}) {
            refused("43: letter " + none + " of bag 49", ELEMENT, RefusalsTest::fiftyBags, x -> x.textOf(49, none));
            refused("43: letter " + none + " of bag 10", ELEMENT, RefusalsTest::fiftyBags, x -> x.textOf(10, none));
        }
        refused("43: letter 3 of bag 9", ELEMENT, RefusalsTest::fiftyBags, x -> x.textOf(9, 3));
    }

    private static void meansAndShares() {
        refused("45: no bags, no nodes", ARITHMETIC, Bagweave::new, x -> x.flownShare());
        refused("46: no nodes", ARITHMETIC, Bagweave::new, x -> x.meanOnNode());
        refused("45: no bags", ARITHMETIC, RefusalsTest::twentyNodes, x -> x.flownShare());
        refused("46: flights, and no nodes", ARITHMETIC, RefusalsTest::tenFlights, x -> x.meanOnNode());
    }
}
