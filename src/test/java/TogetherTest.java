import java.util.NoSuchElementException;

/** Sentences of the document beside each other: what changes while bags are in the midst of their ticks and ways. */
public final class TogetherTest {
    private static final Class<NoSuchElementException> ELEMENT = NoSuchElementException.class;
    private static final Class<UnsupportedOperationException> SUPPORT = UnsupportedOperationException.class;
    private static final int KNOWN = 7;
    private static final int UNKNOWN = 9;
    private static final int PASSENGER = 3;
    private static final int OTHER_PASSENGER = 5;

    private TogetherTest() {
    }

    public static void main(String[] args) {
        aFaultInTheMidstOfTheTicks();
        aFaultOfTheNextNode();
        aFaultOfTheNearestEnd();
        aChuteAtFaultIsNotFull();
        aFullChuteAtFaultIsFull();
        aFlightLeavesThoughItsChuteIsAtFault();
        aVerdictOnANodeAtFault();
        aFaultThatEndsBetweenTicks();
        theOneBehindIsTheFirstThen();
        allTicksAnewAfterACarry();
        carriedAwayFromALastScreeningAndBack();
        aClearBagOnALastScreening();
        carriedOutOfARing();
        readAsItComesAgain();
        carriedFromADeskForProblems();
        aMessageAgainTurnsTheWay();
        aMessageAgainForABagInAUnit();
        aMessageThereAndBack();
        aMessageWithAnotherPassenger();
        aMessageForTheTagThatWasReadWrong();
        aMessageThatComesLate();
        anotherChuteWithAWay();
        anotherChuteWithoutAWay();
        anotherTimeWhileAtTheChute();
        anotherEarlyLimit();
        cancelledWhileOnTheWay();
        closedWhileOnTheWay();
        aUnitThatComesLate();
        anOverflowThatComesLate();
        aGroupThatComesLate();
        aRushThatComesLate();
        Check.end();
    }

    /** An open flight at 9000, so none but its early bags, with a message for KNOWN; its passenger has boarded. */
    private static Bagweave net(String nodes, String links) {
        Bagweave x = Nets.of(nodes, links);
        x.addFlight(9000);
        x.message(KNOWN, 0, PASSENGER);
        x.board(PASSENGER);
        return x;
    }

    /** The same, with the flight soon, and the chutes given. */
    private static Bagweave soon(String nodes, String links, int chute, int overflow) {
        Bagweave x = net(nodes, links);
        x.setTime(0, 25);
        x.assign(0, chute, overflow);
        return x;
    }

    private static int clearOn(Bagweave x, int node) {
        int bag = Nets.clear(x, KNOWN, 'e');
        x.carry(bag, node);
        return bag;
    }

    private static void faults(Bagweave x, boolean is, int... nodes) {
        for (int node : nodes) {
            x.setFault(node, is);
        }
    }

    // ---- a node at fault ----

    private static void aFaultInTheMidstOfTheTicks() {
        Bagweave x = net("m39 s191", "45");
        Nets.unread(x, KNOWN, 4);
        x.tick(1);
        faults(x, true, 4);
        x.tick(4);
        Check.due("two ticks to do", 2, x.left(0));
        faults(x, false, 4);
        x.tick(1);
        faults(x, true, 4);
        x.tick(1);
        Check.due("one tick to do", 1, x.left(0));
        Check.due("not read", ELEMENT, () -> x.readTag(0));
        faults(x, false, 4);
        x.tick(1);
        Check.due("read", KNOWN, x.readTag(0));
        Check.due("gone on", 5, x.nodeOf(0));
    }

    private static void aFaultOfTheNextNode() {
        Bagweave x = net("b19 b19 b39 s191", "45 46 57 67");
        Nets.read(x, KNOWN, 3, 4);
        Check.due("the short way", 5, x.next(0));
        Check.due("its cost", 2, x.wayCost(0));
        faults(x, true, 5);
        Check.due("the long way", 6, x.next(0));
        Check.due("its cost", 4, x.wayCost(0));
        faults(x, true, 6);
        Check.due("no way", ELEMENT, () -> x.next(0));
        x.tick(2);
        Check.due("it waits", 4, x.nodeOf(0));
        faults(x, false, 6);
        x.tick(1);
        Check.due("on the long way", 6, x.nodeOf(0));
        faults(x, false, 5);
        x.tick(2);
        Check.due("it has a tick to do", 6, x.nodeOf(0));
        x.tick(1);
        Check.due("at its end", 7, x.nodeOf(0));
    }

    private static void aFaultOfTheNearestEnd() {
        Bagweave x = net("b19 s191 s991", "45 46");
        Nets.read(x, KNOWN, 3, 4);
        Check.due("the near end", 5, x.next(0));
        faults(x, true, 5);
        Check.due("the far end", 6, x.next(0));
        Check.due("its cost", 9, x.wayCost(0));
        x.tick(1);
        Check.due("it comes there", 6, x.nodeOf(0));
        faults(x, false, 5);
        x.tick(1);
        Check.due("it has what it wants", ELEMENT, () -> x.next(0));
    }

    private static void aChuteAtFaultIsNotFull() {
        Bagweave x = soon("b19 c11 c19", "45 46", 5, 6);
        clearOn(x, 4);
        faults(x, true, 5);
        Check.due("it wants to a chute", 'c', x.goal(0));
        Check.due("to none but that at fault", ELEMENT, () -> x.next(0));
        x.tick(2);
        Check.due("it waits", 4, x.nodeOf(0));
    }

    private static void aFullChuteAtFaultIsFull() {
        Bagweave x = soon("b19 c11 c19", "45 46", 5, 6);
        clearOn(x, 4);
        Nets.unread(x, UNKNOWN, 5);
        faults(x, true, 5);
        Check.due("to the overflow", 6, x.next(0));
        x.tick(1);
        Check.due("it comes there", 6, x.nodeOf(0));
    }

    private static void aFlightLeavesThoughItsChuteIsAtFault() {
        Bagweave x = soon("c19", "", 4, -1);
        x.addUnit(0, 'e', 2);
        clearOn(x, 4);
        x.tick(1);
        clearOn(x, 4);
        faults(x, true, 4);
        x.tick(25 - x.ticks());
        Check.due("one has flown", "f 4", Nets.places(x));
        Check.due("it has left", 'd', x.stateOf(0));
        Check.due("the other one wants to a desk for problems", 'q', x.goal(1));
        faults(x, false, 4);
        x.tick(5);
        Check.due("its flight is not open", 4, x.nodeOf(1));
    }

    private static void aVerdictOnANodeAtFault() {
        for (boolean isClear : new boolean[] {true, false}) {
            Bagweave x = net("s193 e19", "45");
            Nets.passed(x, KNOWN, 2, 4);
            x.tick(1);
            faults(x, true, 4);
            Check.due("it waits", true, x.waitsForVerdict(0));
            Check.due("the node", 4, x.verdict(0, isClear));
            x.tick(3);
            Check.due("clear: " + isClear, isClear ? "4" : "x", Nets.places(x));
            faults(x, false, 4);
            x.tick(1);
            Check.due("without the fault, clear: " + isClear, isClear ? "5" : "x", Nets.places(x));
        }
    }

    /** A fault that was there only between two ticks is none of either. */
    private static void aFaultThatEndsBetweenTicks() {
        Bagweave x = net("b29 s191", "45");
        Nets.read(x, KNOWN, 0, 4);
        x.tick(1);
        faults(x, true, 4, 5);
        faults(x, false, 4, 5);
        x.tick(1);
        Check.due("gone on", 5, x.nodeOf(0));
    }

    // ---- a bag that is carried ----

    private static void theOneBehindIsTheFirstThen() {
        Bagweave x = net("b19 m19 s191", "45 46");
        faults(x, true, 5);
        Nets.unread(x, UNKNOWN, 4);
        Nets.read(x, KNOWN, 3, 4);
        x.tick(2);
        Check.due("the first has no way", "4 4", Nets.places(x));
        x.carry(0, Nets.INPUT);
        Check.due("the first of the belt", 1, x.bagOn(4, 0));
        x.tick(1);
        Check.due("the second goes", "0 6", Nets.places(x));
    }

    private static void allTicksAnewAfterACarry() {
        Bagweave x = net("s391 e19", "45");
        Nets.read(x, KNOWN, 0, 4);
        x.tick(2);
        Check.due("a tick to do", 1, x.left(0));
        x.carry(0, Nets.READER);
        x.tick(3);
        Check.due("not clear elsewhere", false, x.isClear(0));
        Check.due("no level passed", 0, x.level(0));
        x.carry(0, 4);
        Check.due("all ticks to do", 3, x.left(0));
        x.tick(2);
        Check.due("not clear yet", false, x.isClear(0));
        x.tick(1);
        Check.due("clear", true, x.isClear(0));
        Check.due("gone on", 5, x.nodeOf(0));
    }

    private static void carriedAwayFromALastScreeningAndBack() {
        Bagweave x = net("s293", "");
        Nets.passed(x, KNOWN, 2, 4);
        x.tick(2);
        Check.due("it waits", true, x.waitsForVerdict(0));
        Check.due("also one that waits", 4, x.carry(0, Nets.READER));
        x.tick(1);
        Check.due("not elsewhere", false, x.waitsForVerdict(0));
        Check.due("no verdict elsewhere", SUPPORT, () -> x.verdict(0, true));
        x.carry(0, 4);
        x.tick(1);
        Check.due("not with a tick to do", false, x.waitsForVerdict(0));
        x.tick(1);
        Check.due("it waits again", true, x.waitsForVerdict(0));
        Check.due("the verdict", 4, x.verdict(0, true));
        Check.due("not when it is clear", false, x.waitsForVerdict(0));
        Check.due("the level that it has passed", 2, x.level(0));
    }

    private static void aClearBagOnALastScreening() {
        Bagweave x = net("s193 e19", "45");
        faults(x, true, 5);
        clearOn(x, 4);
        x.tick(1);
        Check.due("it has no way", 4, x.nodeOf(0));
        Check.due("it does not wait for a verdict", false, x.waitsForVerdict(0));
        Check.due("still clear", true, x.isClear(0));
        faults(x, false, 5);
        x.tick(1);
        Check.due("it goes on", 5, x.nodeOf(0));
    }

    private static void carriedOutOfARing() {
        Bagweave x = net("b11 b11 m19 s191", "45 54 46 57");
        Nets.read(x, KNOWN, 3, 4);
        Nets.unread(x, UNKNOWN, 5);
        x.carry(1, Nets.INPUT);
        x.tick(1);
        Check.due("the other one goes alone", "5 0", Nets.places(x));
        Check.due("no ring", 0, x.rings());
    }

    private static void readAsItComesAgain() {
        Bagweave x = net("", "");
        x.setReader(Nets.READER, 'm');
        int bag = Nets.unread(x, KNOWN, Nets.READER);
        x.setReader(Nets.READER, 'w');
        x.tick(2);
        Check.due("not while it is there", ELEMENT, () -> x.readTag(bag));
        x.carry(bag, Nets.INPUT);
        x.carry(bag, Nets.READER);
        Check.due("as it comes", KNOWN + 1, x.readTag(bag));
        x.setReader(Nets.READER, 'o');
        x.carry(bag, Nets.INPUT);
        x.carry(bag, Nets.READER);
        Check.due("it was read", KNOWN + 1, x.readTag(bag));
    }

    /** "No bag leaves a desk for problems": but it can be carried. */
    private static void carriedFromADeskForProblems() {
        Bagweave x = net("q19 m19", "");
        Nets.unread(x, KNOWN, 4);
        x.tick(5);
        Check.due("it stays", 4, x.nodeOf(0));
        Check.due("the node before", 4, x.carry(0, 5));
        x.tick(1);
        Check.due("read", KNOWN, x.readTag(0));
    }

    // ---- a message that comes again ----

    private static void aMessageAgainTurnsTheWay() {
        Bagweave x = soon("b19 c19 c19", "45 46", 5, -1);
        x.addFlight(25);
        x.assign(1, 6, -1);
        clearOn(x, 4);
        Check.due("to the first chute", 5, x.next(0));
        Check.due("another one", true, x.message(KNOWN, 1, PASSENGER));
        Check.due("the other flight", 1, x.flightOf(0));
        Check.due("to the other chute", 6, x.next(0));
        x.tick(1);
        Check.due("it comes there", 6, x.nodeOf(0));
    }

    private static Bagweave withOneInAUnit() {
        Bagweave x = soon("c19", "", 4, -1);
        x.addUnit(0, 'e', 2);
        x.addFlight(100);
        clearOn(x, 4);
        x.tick(1);
        return x;
    }

    private static void aMessageAgainForABagInAUnit() {
        Bagweave x = withOneInAUnit();
        x.message(KNOWN, 1, PASSENGER);
        Check.due("its flight", 1, x.flightOf(0));
        Check.due("its unit", 0, x.unitOf(0));
        Check.due("not with the first", false, x.mayFly(0, 0));
        Check.due("with the other one", true, x.mayFly(0, 1));
        x.tick(25 - x.ticks());
        Check.due("at the side", 's', x.whereIs(0));
        Check.due("closed", 'l', x.stateOf(0));
        Check.due("later", 27, x.timeOf(0));
        x.message(KNOWN, 0, PASSENGER);
        x.tick(2);
        Check.due("it leaves without it", 'd', x.stateOf(0));
        Check.due("still at the side", 's', x.whereIs(0));
        Check.due("none", 0, x.loaded(0));
        Check.due("one was taken out", 1, x.takenOut());
    }

    private static void aMessageThereAndBack() {
        Bagweave x = withOneInAUnit();
        x.message(KNOWN, 1, PASSENGER);
        x.tick(1);
        x.message(KNOWN, 0, PASSENGER);
        x.tick(25 - x.ticks());
        Check.due("the last one counts", 'f', x.whereIs(0));
    }

    private static void aMessageWithAnotherPassenger() {
        Bagweave x = withOneInAUnit();
        x.message(KNOWN, 0, OTHER_PASSENGER);
        x.setOff(PASSENGER, true);
        Check.due("the other one has not boarded", false, x.mayFly(0, 0));
        x.board(OTHER_PASSENGER);
        Check.due("the other one has boarded", true, x.mayFly(0, 0));
        x.tick(25 - x.ticks());
        Check.due("it flies", 'f', x.whereIs(0));
    }

    /** Its units are those of the flight that was read; whether it may fly is told by its own tag. */
    private static void aMessageForTheTagThatWasReadWrong() {
        for (boolean isMended : new boolean[] {true, false}) {
            Bagweave x = soon("c19", "", 4, -1);
            x.addUnit(0, 'e', 1);
            x.addFlight(100);
            x.setReader(Nets.READER, 'w');
            x.message(KNOWN + 1, 0, OTHER_PASSENGER);
            x.message(KNOWN, 1, PASSENGER);
            clearOn(x, 4);
            x.tick(1);
            Check.due("in the unit of the wrong one", 0, x.unitOf(0));
            Check.due("not with this flight", false, x.mayFly(0, 0));
            Check.due("with its own", true, x.mayFly(0, 1));
            if (isMended) {
                x.message(KNOWN, 0, PASSENGER);
            }
            x.tick(25 - x.ticks());
            Check.due("flown, mended: " + isMended, isMended ? 'f' : 's', x.whereIs(0));
        }
    }

    private static void aMessageThatComesLate() {
        Bagweave x = net("m19 s191", "45");
        Nets.unread(x, UNKNOWN, 4);
        x.tick(5);
        Check.due("read", UNKNOWN, x.readTag(0));
        Check.due("it has what it wants", ELEMENT, () -> x.next(0));
        Check.due("the first one", false, x.message(UNKNOWN, 0, PASSENGER));
        Check.due("to a screening", 5, x.next(0));
        x.tick(1);
        Check.due("it goes on", 5, x.nodeOf(0));
    }

    // ---- a flight that is changed ----

    /** Part 2 comes before part 4: with a way, it goes on rather than into a unit. */
    private static void anotherChuteWithAWay() {
        Bagweave x = soon("c19 b19 c19", "45 56", 4, -1);
        clearOn(x, 4);
        x.tick(2);
        Check.due("it has what it wants", 4, x.nodeOf(0));
        x.addUnit(0, 'e', 1);
        Check.due("the chute before", 4, x.assign(0, 6, -1));
        x.tick(1);
        Check.due("on its way", 5, x.nodeOf(0));
        x.tick(1);
        Check.due("at the other chute", 6, x.nodeOf(0));
        x.tick(1);
        Check.due("in the unit", 'u', x.whereIs(0));
    }

    private static void anotherChuteWithoutAWay() {
        Bagweave x = soon("c19 c19", "", 4, -1);
        x.addUnit(0, 'e', 1);
        clearOn(x, 4);
        x.assign(0, 5, -1);
        x.tick(1);
        Check.due("wherever it wants to", 'u', x.whereIs(0));
    }

    /** "in more ticks than the early limit", which is 30: at 31 to the store, at 30 to the chute. */
    private static void anotherTimeWhileAtTheChute() {
        Bagweave x = soon("c19 e19", "45 54", 4, -1);
        clearOn(x, 4);
        Check.due("it has what it wants", ELEMENT, () -> x.next(0));
        x.setTime(0, x.ticks() + 32);
        Check.due("to the store", 5, x.next(0));
        x.tick(1);
        Check.due("at 31", 5, x.nodeOf(0));
        Check.due("it has what it wants now", 'e', x.goal(0));
        x.tick(1);
        Check.due("at 30", 4, x.nodeOf(0));
        Check.due("to the chute", 'c', x.goal(0));
    }

    private static void anotherEarlyLimit() {
        Bagweave x = soon("e19 c19", "45", 5, -1);
        x.setEarly(10);
        clearOn(x, 4);
        x.tick(2);
        Check.due("early", 4, x.nodeOf(0));
        x.setEarly(25);
        Check.due("early no more", 5, x.next(0));
        x.tick(1);
        Check.due("at the chute", 5, x.nodeOf(0));
    }

    private static void cancelledWhileOnTheWay() {
        Bagweave x = soon("b29 c19 q19", "45 46", 5, -1);
        clearOn(x, 4);
        x.tick(1);
        Check.due("to the chute", 5, x.next(0));
        Check.due("none in its units", 0, x.cancel(0));
        Check.due("to a desk for problems", 'q', x.goal(0));
        x.tick(1);
        Check.due("it goes there", 6, x.nodeOf(0));
        x.tick(9);
        Check.due("and stays", 6, x.nodeOf(0));
        Check.due("none was taken out", 0, x.takenOut());
    }

    /** Part 5 comes last: in the tick in which the flight is closed, bags still go on to its chute. */
    private static void closedWhileOnTheWay() {
        Bagweave x = soon("c19 b19 b19 q19", "54 65 67 57", 4, -1);
        x.addUnit(0, 'e', 2);
        clearOn(x, 4);
        x.tick(1);
        x.setTime(0, x.ticks() + 3);
        clearOn(x, 6);
        x.setOff(PASSENGER, true);
        x.tick(1);
        Check.due("on the way", "u 5", Nets.places(x));
        x.tick(1);
        Check.due("at the chute, and one taken out", "s 4", Nets.places(x));
        Check.due("closed", 'l', x.stateOf(0));
        Check.due("it wants to a desk for problems", 'q', x.goal(1));
        x.tick(1);
        Check.due("not into a unit, with no way", "s 4", Nets.places(x));
        x.setTime(0, x.ticks() + 20);
        Check.due("closed at another time, too", 'q', x.goal(1));
    }

    private static void aUnitThatComesLate() {
        Bagweave x = soon("c19", "", 4, -1);
        clearOn(x, 4);
        x.addUnit(0, 'f', 1);
        x.tick(3);
        Check.due("none for its class", 4, x.nodeOf(0));
        Check.due("the number", 1, x.addUnit(0, 'e', 1));
        x.tick(1);
        Check.due("in the second", 1, x.unitOf(0));
    }

    private static void anOverflowThatComesLate() {
        Bagweave x = soon("b19 c11 c19", "45 46", 5, -1);
        Nets.unread(x, UNKNOWN, 5);
        clearOn(x, 4);
        x.tick(2);
        Check.due("it waits for room", 4, x.nodeOf(1));
        Check.due("the chute before", 5, x.assign(0, 5, 6));
        Check.due("to the overflow", 6, x.next(1));
        x.tick(1);
        Check.due("it goes there", 6, x.nodeOf(1));
    }

    private static void aGroupThatComesLate() {
        Bagweave x = withOneInAUnit();
        x.setOff(OTHER_PASSENGER, true);
        x.setGroup(OTHER_PASSENGER, 2);
        Check.due("of another group", true, x.mayFly(0, 0));
        x.setGroup(PASSENGER, 2);
        Check.due("of the same group", false, x.mayFly(0, 0));
        x.tick(25 - x.ticks());
        Check.due("taken out", 's', x.whereIs(0));
        x.setOff(OTHER_PASSENGER, false);
        Check.due("it may again", true, x.mayFly(0, 0));
        x.tick(2);
        Check.due("too late", "s", Nets.places(x));
        Check.due("it has left", 'd', x.stateOf(0));
    }

    private static void aRushThatComesLate() {
        Bagweave x = withOneInAUnit();
        x.setOff(PASSENGER, true);
        Check.due("it may not", false, x.mayFly(0, 0));
        Check.due("it was none", true, x.rush(0));
        x.tick(25 - x.ticks());
        Check.due("it flies", 'f', x.whereIs(0));
        Check.due("sound", true, x.isSound());
    }
}
