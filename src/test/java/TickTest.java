import java.util.NoSuchElementException;

/** The parts of a tick: rows, places that let any bag go, rings, units and flights. */
public final class TickTest {
    private static final int DESK = 4;
    private static final int SCREENING = 5;
    private static final int STORE = 6;
    private static final int LONE_READER = 7;
    private static final int LONE_SCREENING = 8;

    private TickTest() {
    }

    public static void main(String[] args) {
        oneBagToANode();
        oneBagFromANode();
        roundsAreRepeated();
        onlyTheFirstLeavesARow();
        anyLeavesAStore();
        noneLeavesProblems();
        waitingBagStays();
        bagsThatWantElsewhereLeaveTheLastLevel();
        bagThatCannotLeaveTheLastLevelWaitsForAVerdict();
        ringOverTheLastLevel();
        ringGoesOn();
        ringWithFaultStands();
        ringWithTicksToDoStands();
        ringWithRoomIsNone();
        ringIsFoundBesideItsWayIn();
        ringOverADesk();
        readsInARing();
        oneBagIntoAUnit();
        firstThatCanGoesIntoAUnit();
        anyChuteLoads();
        chuteAtFaultLoadsNone();
        bagsOfClosedFlightsAreNotLoaded();
        misreadBagIsTakenOut();
        rushBagFlies();
        latestFlightLeavesLater();
        Check.end();
    }

    /**
     * The bags 0, 1 and 2 on the belts 1, 2 and 3, of room 1, that lead round. Each belt leads to a goal, too: 1 to a
     * desk for coding, 2 to a screening, 3 to a store; and each bag wants to that of the belt behind its own. The input
     * 0 leads to the belt 1, but no bag is on it.
     */
    static Bagweave stuckRing() {
        Bagweave x = new Bagweave();
        x.addNode('i', 1, 1, 0);
        x.addNode('b', 1, 1, 0);
        x.addNode('b', 1, 1, 0);
        x.addNode('b', 1, 1, 0);
        x.addNode('m', 1, 3, 0);
        x.addNode('s', 1, 3, 1);
        x.addNode('e', 1, 3, 0);
        x.addNode('r', 1, 3, 0);
        x.addNode('s', 1, 3, 1);
        int[][] links = {{0, 1}, {1, 2}, {2, 3}, {3, 1}, {1, DESK}, {2, SCREENING}, {3, STORE}};
        for (int[] link : links) {
            x.link(link[0], link[1]);
        }
        x.addFlight(9000);
        x.message(7, 0, 0);
        clearBag(x);
        x.carry(0, 1);
        x.carry(x.addBag(0, 8, 0, 'e'), 2);
        x.carry(x.addBag(0, 7, 0, 'e'), LONE_READER);
        x.carry(2, 3);
        return x;
    }

    private static int clearBag(Bagweave x) {
        int bag = x.addBag(0, 7, 0, 'e');
        x.carry(bag, LONE_READER);
        x.carry(bag, LONE_SCREENING);
        x.tick(1);
        return bag;
    }

    private static String places(Bagweave x) {
        StringBuilder text = new StringBuilder();
        for (int bag = 0; bag < x.bags(); bag++) {
            text.append(x.whereIs(bag) == 'n' ? "" + x.nodeOf(bag) : "" + x.whereIs(bag)).append(' ');
        }
        return text.toString();
    }

    private static void oneBagToANode() {
        Bagweave x = new Bagweave();
        x.addNode('i', 1, 1, 0);
        x.addNode('i', 1, 1, 0);
        x.addNode('b', 1, 9, 0);
        x.addNode('m', 1, 9, 0);
        x.link(0, 2);
        x.link(1, 2);
        x.link(2, 3);
        x.addBag(1, 1, 0, 'e');
        x.addBag(0, 2, 0, 'e');
        x.tick(1);
        Check.due("a node takes one bag in a tick, from the lowest", "1 2 ", places(x));
        x.tick(1);
        Check.due("then the other one", "2 3 ", places(x));
    }

    private static void oneBagFromANode() {
        Bagweave x = new Bagweave();
        x.addNode('i', 1, 9, 0);
        x.addNode('m', 1, 1, 0);
        x.addNode('m', 1, 1, 0);
        x.addNode('b', 2, 5, 0);
        x.link(0, 1);
        x.link(0, 2);
        x.addBag(0, 1, 0, 'e');
        x.addBag(0, 1, 0, 'e');
        x.tick(1);
        Check.due("a node lets one bag go in a tick", "1 0 ", places(x));
        x.tick(1);
        Check.due("then the next one", "1 2 ", places(x));
    }

    private static void roundsAreRepeated() {
        Bagweave x = new Bagweave();
        x.addNode('i', 1, 1, 0);
        x.addNode('b', 1, 1, 0);
        x.addNode('b', 1, 1, 0);
        x.addNode('m', 1, 9, 0);
        x.link(0, 1);
        x.link(1, 2);
        x.link(2, 3);
        x.carry(x.addBag(0, 1, 0, 'e'), 2);
        x.carry(x.addBag(0, 1, 0, 'e'), 1);
        x.addBag(0, 1, 0, 'e');
        x.tick(1);
        Check.due("all follow in one tick", "3 2 1 ", places(x));
        x.tick(1);
        Check.due("and again", "3 3 2 ", places(x));
    }

    private static void onlyTheFirstLeavesARow() {
        Bagweave x = new Bagweave();
        x.addNode('i', 1, 1, 0);
        x.addNode('b', 1, 9, 0);
        x.addNode('m', 9, 1, 0);
        x.addNode('s', 1, 9, 1);
        x.addNode('r', 1, 9, 0);
        x.link(0, 1);
        x.link(1, 2);
        x.link(1, 3);
        x.addFlight(90);
        x.message(7, 0, 0);
        x.carry(x.addBag(0, 1, 0, 'e'), 2);
        x.carry(x.addBag(0, 1, 0, 'e'), 1);
        x.carry(x.addBag(0, 7, 0, 'e'), 4);
        x.carry(2, 1);
        x.tick(5);
        Check.due("the second one wants to the screening", 3, x.next(2));
        Check.due("behind one that stands", "2 1 1 ", places(x));
        x.carry(1, 4);
        x.tick(1);
        Check.due("it leaves as the first one", 3, x.nodeOf(2));
    }

    private static void anyLeavesAStore() {
        for (char kind : new char[] {'e', 'c', 'm', 'b', 'r', 'i'}) {
            Bagweave x = new Bagweave();
            x.addNode('i', 1, 9, 0);
            x.addNode(kind, 1, 9, 0);
            x.addNode('s', 1, 9, 1);
            x.addNode('r', 1, 9, 0);
            x.link(1, 2);
            x.addFlight(90);
            x.message(7, 0, 0);
            x.addBag(0, 1, 0, 'e');
            x.carry(0, 3);
            x.carry(0, 1);
            for (int i = 1; i < 3; i++) {
                x.addBag(0, 7, 0, 'e');
                x.carry(i, 3);
                x.carry(i, 1);
            }
            x.tick(1);
            Check.due("behind one that stays in " + kind, "bri".indexOf(kind) >= 0 ? "1 1 1 " : "1 2 1 ", places(x));
        }
    }

    private static void noneLeavesProblems() {
        Bagweave x = new Bagweave();
        x.addNode('i', 1, 9, 0);
        x.addNode('q', 1, 9, 0);
        x.addNode('m', 1, 9, 0);
        x.link(0, 2);
        x.carry(x.addBag(0, 1, 0, 'e'), 1);
        x.tick(3);
        Check.due("it stays", "1 ", places(x));
        Check.due("its goal is another one", 'm', x.goal(0));
        Check.due("it has no way", NoSuchElementException.class, () -> x.next(0));
    }

    /**
     * A screening of each level, the nodes 1, 2 and 3, all of length 1 but the last one's 2, a reader 4, a store 5 and
     * a desk for coding 6, behind the last screening all of them; and a message for the tag 7. The input is 0.
     */
    private static Bagweave lastScreening() {
        Bagweave x = new Bagweave();
        x.addNode('i', 1, 9, 0);
        x.addNode('s', 1, 9, 1);
        x.addNode('s', 1, 9, 2);
        x.addNode('s', 2, 9, 3);
        x.addNode('r', 1, 9, 0);
        x.addNode('e', 1, 9, 0);
        x.addNode('m', 1, 9, 0);
        for (int to : new int[] {1, 2, 5, 6}) {
            x.link(3, to);
        }
        x.addFlight(90);
        x.message(7, 0, 0);
        return x;
    }

    /** Brings a bag, of the greatest suspicion, that has passed the levels up to one, and is not clear. */
    private static void bringPassed(Bagweave x, int level) {
        int bag = x.addBag(0, 7, 3, 'e');
        x.carry(bag, 4);
        for (int k = 1; k <= level; k++) {
            x.carry(bag, k);
            x.tick(1);
        }
    }

    private static void waitingBagStays() {
        Bagweave x = lastScreening();
        bringPassed(x, 2);
        x.carry(0, 3);
        x.addBag(0, 7, 0, 'e');
        x.carry(1, 4);
        x.carry(1, 1);
        x.tick(1);
        x.carry(1, 3);
        x.tick(5);
        Check.due("it waits", true, x.waitsForVerdict(0));
        Check.due("it has what it wants", NoSuchElementException.class, () -> x.next(0));
        Check.due("a clear one stands behind it", "3 3 ", places(x));
        x.verdict(0, true);
        x.tick(1);
        Check.due("then it goes on", "5 3 ", places(x));
        x.tick(1);
        Check.due("and the next one", "5 5 ", places(x));
    }

    private static void bagsThatWantElsewhereLeaveTheLastLevel() {
        Bagweave unread = lastScreening();
        unread.carry(unread.addBag(0, 7, 0, 'e'), 3);
        unread.tick(1);
        Check.due("a tick to do", "3 ", places(unread));
        unread.tick(1);
        Check.due("one that was not read, to a desk", "6 ", places(unread));
        Check.due("it does not wait there", false, unread.waitsForVerdict(0));
        Check.due("it is not clear", false, unread.isClear(0));
        Check.due("it has passed nothing", 0, unread.level(0));
        for (int level = 0; level <= 1; level++) {
            Bagweave early = lastScreening();
            bringPassed(early, level);
            early.carry(0, 3);
            early.tick(2);
            Check.due("one that has passed " + level, 1 + level + " ", places(early));
            Check.due("it has passed no more", level, early.level(0));
        }
        Bagweave noMessage = lastScreening();
        noMessage.carry(noMessage.addBag(0, 8, 0, 'e'), 4);
        noMessage.carry(0, 3);
        noMessage.tick(2);
        Check.due("one without a message, to a desk", "6 ", places(noMessage));
    }

    private static void bagThatCannotLeaveTheLastLevelWaitsForAVerdict() {
        Bagweave x = lastScreening();
        x.setFault(6, true);
        x.carry(x.addBag(0, 7, 3, 'e'), 3);
        x.tick(3);
        Check.due("it has no way to a desk", "3 ", places(x));
        Check.due("so it waits", true, x.waitsForVerdict(0));
        Check.due("where it is", 3, x.verdict(0, true));
        Check.due("it wants to a desk still", 'm', x.goal(0));
        x.setFault(6, false);
        x.tick(1);
        Check.due("and goes there", "6 ", places(x));
    }

    private static void ringOverTheLastLevel() {
        for (int level = 0; level <= 2; level++) {
            Bagweave x = new Bagweave();
            x.addNode('i', 1, 9, 0);
            x.addNode('s', 1, 1, 3);
            x.addNode('b', 1, 1, 0);
            x.addNode('s', 1, 1, 1);
            x.addNode('s', 1, 1, 2);
            x.addNode('r', 1, 9, 0);
            for (int[] link : new int[][] {{1, 2}, {2, 1}, {2, 3}, {2, 4}}) {
                x.link(link[0], link[1]);
            }
            x.addFlight(90);
            x.message(7, 0, 0);
            for (int bag = 0; bag <= 1; bag++) {
                x.carry(x.addBag(0, 7, 3, 'e'), 5);
                for (int k = 1; k <= (bag == 0 ? level : 2); k++) {
                    x.carry(bag, 2 + k);
                    x.tick(1);
                }
                x.carry(bag, 0);
            }
            x.carry(0, 1);
            x.carry(1, 2);
            x.tick(1);
            Check.due("the level " + level + " passed", level < 2 ? "2 1 " : "1 2 ", places(x));
            Check.due("rings, the level " + level + " passed", level < 2 ? 1 : 0, x.rings());
        }
    }

    private static void ringGoesOn() {
        Bagweave x = stuckRing();
        Check.due("before", "1 2 3 ", places(x));
        Check.due("its way", 2, x.next(0));
        Check.due("its cost", 2 + 2 + 1, x.wayCost(0));
        x.tick(1);
        Check.due("once round", "2 3 1 ", places(x));
        Check.due("a ring", 1, x.rings());
        x.tick(1);
        Check.due("twice round", "3 1 2 ", places(x));
        Check.due("rings", 2, x.rings());
        x.tick(1);
        Check.due("off the ring", "6 4 5 ", places(x));
        Check.due("none any more", 2, x.rings());
    }

    private static void ringWithFaultStands() {
        Bagweave x = stuckRing();
        x.setFault(2, true);
        x.tick(4);
        Check.due("it stands", "1 2 3 ", places(x));
        Check.due("no ring", 0, x.rings());
        x.setFault(2, false);
        x.tick(1);
        Check.due("it goes on", "2 3 1 ", places(x));
    }

    private static void ringWithTicksToDoStands() {
        Bagweave x = stuckRing();
        x.setFault(3, true);
        x.tick(1);
        Check.due("a tick to do behind the fault", 1, x.left(2));
        x.setFault(3, false);
        x.tick(1);
        Check.due("it goes on", "2 3 1 ", places(x));
        Bagweave slow = twoBelts(2);
        slow.tick(1);
        Check.due("one has a tick to do", "1 2 ", places(slow));
        Check.due("no ring", 0, slow.rings());
        slow.tick(1);
        Check.due("both go on", "2 1 ", places(slow));
        Check.due("a ring of two", 1, slow.rings());
    }

    /** The bag 0 wants over both belts to a screening, the bag 1 over both to a desk. */
    private static Bagweave twoBelts(int length) {
        Bagweave x = new Bagweave();
        x.addNode('i', 1, 1, 0);
        x.addNode('b', 1, 1, 0);
        x.addNode('b', length, 1, 0);
        x.addNode('m', 1, 1, 0);
        x.addNode('s', 1, 1, 1);
        x.addNode('r', 1, 1, 0);
        int[][] links = {{0, 1}, {1, 2}, {2, 1}, {1, 3}, {2, 4}};
        for (int[] link : links) {
            x.link(link[0], link[1]);
        }
        x.addFlight(90);
        x.message(7, 0, 0);
        x.addBag(0, 7, 0, 'e');
        x.carry(0, 5);
        x.carry(0, 1);
        x.carry(x.addBag(0, 1, 0, 'e'), 2);
        return x;
    }

    private static void ringWithRoomIsNone() {
        Bagweave x = stuckRing();
        x.carry(1, 0);
        x.tick(1);
        Check.due("they go without a ring", "2 0 1 ", places(x));
        Check.due("no ring", 0, x.rings());
    }

    private static void ringIsFoundBesideItsWayIn() {
        Bagweave x = stuckRing();
        x.addBag(0, 8, 0, 'e');
        x.tick(1);
        Check.due("the ring goes on, the input stands", "2 3 1 0 ", places(x));
        Check.due("a ring", 1, x.rings());
        x.tick(2);
        Check.due("then it follows", "6 4 5 1 ", places(x));
    }

    private static void ringOverADesk() {
        Bagweave x = new Bagweave();
        x.addNode('i', 1, 1, 0);
        x.addNode('m', 1, 2, 0);
        x.addNode('b', 1, 1, 0);
        x.addNode('s', 1, 1, 1);
        x.link(0, 2);
        x.link(1, 2);
        x.link(2, 1);
        x.link(2, 3);
        x.addFlight(90);
        x.message(7, 0, 0);
        x.carry(x.addBag(0, 1, 0, 'e'), 1);
        x.carry(x.addBag(0, 7, 0, 'e'), 1);
        x.carry(x.addBag(0, 2, 0, 'e'), 2);
        x.tick(1);
        Check.due("the second of the desk goes on", "1 2 1 ", places(x));
        Check.due("the first is the one that stayed", 0, x.bagOn(1, 0));
        Check.due("the last is the one that came", 2, x.bagOn(1, 1));
        Check.due("a ring of two", 1, x.rings());
        x.tick(1);
        Check.due("it goes on to the screening", "1 3 1 ", places(x));
    }

    private static void readsInARing() {
        Bagweave x = new Bagweave();
        x.addNode('i', 1, 1, 0);
        x.addNode('b', 1, 1, 0);
        x.addNode('r', 1, 1, 0);
        x.addNode('m', 1, 1, 0);
        x.addNode('s', 1, 1, 1);
        x.addNode('r', 1, 1, 0);
        int[][] links = {{0, 1}, {1, 2}, {2, 1}, {2, 3}, {1, 4}};
        for (int[] link : links) {
            x.link(link[0], link[1]);
        }
        x.addFlight(90);
        x.message(7, 0, 0);
        x.addBag(0, 7, 0, 'e');
        x.carry(0, 5);
        x.carry(0, 2);
        x.carry(x.addBag(0, 7, 0, 'e'), 1);
        x.tick(1);
        Check.due("both go on", "1 2 ", places(x));
        Check.due("and the reader reads", 7, x.readTag(1));
        x.tick(2);
        Check.due("the one, and the other behind it", "4 1 ", places(x));
    }

    /** A chute 0 of length 1 and room 9, a reader 1, a screening 2 and an input 3, and the flights 0 and 1 at 50. */
    private static Bagweave chute() {
        Bagweave x = new Bagweave();
        x.addNode('c', 1, 9, 0);
        x.addNode('r', 1, 9, 0);
        x.addNode('s', 1, 9, 1);
        x.addNode('i', 1, 9, 0);
        x.addFlight(50);
        x.addFlight(50);
        x.message(7, 0, 0);
        x.message(8, 1, 0);
        x.board(0);
        return x;
    }

    private static void bring(Bagweave x, int tag, char sort, boolean isClear) {
        int bag = x.addBag(3, tag, 0, sort);
        x.carry(bag, 1);
        if (isClear) {
            x.carry(bag, 2);
            x.tick(1);
        }
        x.setFault(0, false);
        x.carry(bag, 0);
        x.setFault(0, true);
    }

    private static void oneBagIntoAUnit() {
        Bagweave x = chute();
        x.addUnit(0, 'e', 9);
        for (int i = 0; i < 3; i++) {
            bring(x, 7, 'e', true);
        }
        x.setFault(0, false);
        x.tick(1);
        Check.due("one in a tick", "u 0 0 ", places(x));
        x.tick(1);
        Check.due("then the next", "u u 0 ", places(x));
    }

    private static void firstThatCanGoesIntoAUnit() {
        Bagweave x = chute();
        x.addUnit(0, 'f', 1);
        x.addUnit(0, 'e', 1);
        bring(x, 7, 'e', false);
        bring(x, 9, 'e', true);
        bring(x, 7, 't', true);
        bring(x, 8, 'e', true);
        bring(x, 7, 'e', true);
        bring(x, 7, 'e', true);
        bring(x, 7, 'f', true);
        x.setFault(0, false);
        x.tick(1);
        Check.due("not clear, no flight, no class, no units: the fifth", "0 0 0 0 u 0 0 ", places(x));
        Check.due("the unit for its class", 1, x.unitOf(4));
        x.tick(1);
        Check.due("the unit is full: the seventh", "0 0 0 0 u 0 u ", places(x));
        Check.due("the unit for its class", 0, x.unitOf(6));
        x.tick(3);
        Check.due("no more", "0 0 0 0 u 0 u ", places(x));
        x.addUnit(1, 'e', 1);
        x.tick(1);
        Check.due("a unit of another flight", 10, x.unitOf(3));
    }

    private static void anyChuteLoads() {
        Bagweave x = chute();
        int own = x.addNode('c', 1, 1, 0);
        x.link(0, own);
        x.assign(0, own, -1);
        x.setEarly(999);
        x.addUnit(0, 'e', 9);
        bring(x, 7, 'e', true);
        bring(x, 7, 'e', true);
        bring(x, 7, 'e', true);
        x.setFault(0, false);
        x.tick(1);
        Check.due("one goes on, and one into a unit", own, x.nodeOf(0));
        Check.due("wherever it wants to", "4 u 0 ", places(x));
        x.tick(1);
        Check.due("each chute one", "u u u ", places(x));
        Check.due("all", 3, x.loaded(0));
    }

    private static void chuteAtFaultLoadsNone() {
        Bagweave x = chute();
        x.addUnit(0, 'e', 9);
        bring(x, 7, 'e', true);
        x.setFault(0, false);
        x.carry(0, 1);
        x.carry(0, 0);
        x.setFault(0, true);
        x.tick(3);
        Check.due("it stays", "0 ", places(x));
        Check.due("with its tick to do", 1, x.left(0));
        x.setFault(0, false);
        x.tick(1);
        Check.due("then it goes", "u ", places(x));
    }

    private static void bagsOfClosedFlightsAreNotLoaded() {
        Bagweave x = chute();
        x.addUnit(0, 'e', 9);
        bring(x, 7, 'e', true);
        x.setFault(0, false);
        x.tick(1);
        x.setOff(0, true);
        x.tick(50 - x.ticks());
        Check.due("closed", 'l', x.stateOf(0));
        x.carry(0, 0);
        x.tick(1);
        Check.due("not again", "0 ", places(x));
        Check.due("52", 52, x.timeOf(0));
        x.tick(1);
        Check.due("has left without", 'd', x.stateOf(0));
        Check.due("none", 0, x.loaded(0));
    }

    private static void misreadBagIsTakenOut() {
        Bagweave x = chute();
        x.addUnit(1, 'e', 9);
        x.setReader(1, 'w');
        bring(x, 7, 'e', true);
        x.setFault(0, false);
        x.tick(1);
        Check.due("into the flight of the tag that was read", 10, x.unitOf(0));
        Check.due("for which it may not fly", false, x.mayFly(0, 1));
        x.tick(50 - x.ticks());
        Check.due("at the side", "s ", places(x));
        Check.due("its passenger's flight has left", 'd', x.stateOf(0));
        Check.due("the other one is closed", 'l', x.stateOf(1));
        Check.due("sound", true, x.isSound());
    }

    private static void rushBagFlies() {
        Bagweave x = chute();
        x.addUnit(1, 'e', 9);
        x.setReader(1, 'w');
        bring(x, 7, 'e', true);
        x.rush(0);
        x.setFault(0, false);
        x.tick(50);
        Check.due("it flies", "f ", places(x));
        Check.due("alone", 1.0f, x.flownShare());
        Check.due("sound", true, x.isSound());
    }

    private static void latestFlightLeavesLater() {
        Bagweave x = chute();
        x.setTime(0, 9999);
        x.addUnit(0, 'e', 9);
        bring(x, 7, 'e', true);
        x.setFault(0, false);
        x.tick(1);
        x.setOff(0, true);
        int now = x.ticks();
        while (now < 9998) {
            now = x.tick(Math.min(60, 9998 - now));
        }
        Check.due("still there", "u ", places(x));
        Check.due("the last time", 2, x.addFlight(9999));
        x.tick(1);
        Check.due("2 later, above 9999", 10001, x.timeOf(0));
        Check.due("no time is left", IllegalArgumentException.class, () -> x.addFlight(10000));
        Check.due("nor to set", IllegalArgumentException.class, () -> x.setTime(0, 10000));
        x.tick(2);
        Check.due("has left", 'd', x.stateOf(0));
        Check.due("and the other one", 'd', x.stateOf(2));
    }
}
