import java.util.NoSuchElementException;

/** The boundary cases of the term "Goals": what a bag wants, the one that is named first, and the way there. */
public final class GoalsAndWaysTest {
    private static final Class<NoSuchElementException> ELEMENT = NoSuchElementException.class;
    private static final int KNOWN = 7;
    private static final int UNKNOWN = 9;

    private GoalsAndWaysTest() {
    }

    public static void main(String[] args) {
        oneThatWasNotReadWantsToADeskFirstOfAll();
        oneWithoutAMessageWantsToADesk();
        oneThatIsNotClearWantsToAScreening();
        theLevelIsThatBehindTheOnePassed();
        oneOfAFlightThatIsNotOpenWantsToProblems();
        theEarlyLimitIsThirtyAtFirst();
        theEarlyLimitIsLeastZero();
        theEarlyLimitIsMost999();
        timeGoesByAndTheGoalChanges();
        withoutAChuteToAStore();
        toTheChuteOfItsFlight();
        toTheOverflowIfTheChuteIsFull();
        notCountingItselfThere();
        bothChutesAreFull();
        backFromTheOverflow();
        oneAtSuchANodeHasWhatItWants();
        theCostIsLengthAndBagsOfEachNode();
        theOwnNodeCostsNothing();
        theWayIsThatOfTheLeastCost();
        theWayLeadsOverBeltsAlone();
        nodesAtFaultAreNoneOfTheWay();
        theOwnNodeMayBeAtFault();
        ofSeveralTheLowestNextNode();
        theWayHasManyBelts();
        theWayIsOneWay();
        withoutAWayItWaits();
        theNearestOfSeveralEnds();
        Check.end();
    }

    private static Bagweave net(String nodes, String links) {
        Bagweave x = Nets.of(nodes, links);
        x.addFlight(500);
        x.message(KNOWN, 0, 0);
        return x;
    }

    /** The node 4 is a belt from which all goals can be reached: 5 m, 6 to 8 s, 9 q, a e, b and c chutes. */
    private static Bagweave allGoals() {
        return net("b19 m19 s191 s192 s193 q19 e19 c12 c12 b19 b19 b19",
                "45 46 47 4d d8 d9 de ea eb ec");
    }

    private static void goal(String what, Bagweave x, int bag, char goal, int end) {
        Check.due(what, goal, x.goal(bag));
        int node = x.nodeOf(bag);
        x.carry(bag, 4);
        int steps = 0;
        while (steps < 9 && x.nodeOf(bag) != end) {
            x.tick(1);
            steps++;
        }
        Check.due(what + ": gets there", end, x.nodeOf(bag));
        x.carry(bag, node);
    }

    // ---- goals ----

    /** "A bag that was not read [...] wants to a desk for coding": clear, and its flight cancelled, all the same. */
    private static void oneThatWasNotReadWantsToADeskFirstOfAll() {
        Bagweave x = allGoals();
        Nets.unread(x, KNOWN, Nets.FIRST_SCREEN);
        x.tick(1);
        Check.due("clear", true, x.isClear(0));
        x.carry(0, 14);
        x.cancel(0);
        goal("not read", x, 0, 'm', 5);
    }

    /** "or has no message for the tag that was read": though there is one for its own. */
    private static void oneWithoutAMessageWantsToADesk() {
        Bagweave x = allGoals();
        x.setReader(Nets.READER, 'w');
        Nets.read(x, KNOWN, 0, Nets.FIRST_SCREEN);
        x.tick(1);
        x.carry(0, 14);
        goal("no message", x, 0, 'm', 5);
        x.message(KNOWN + 1, 0, 0);
        Check.due("a late message", 'e', x.goal(0));
    }

    /** "one that is not clear, to a screening": before what its flight asks. */
    private static void oneThatIsNotClearWantsToAScreening() {
        Bagweave x = allGoals();
        x.assign(0, 11, -1);
        x.setEarly(999);
        Nets.read(x, KNOWN, 0, 14);
        x.cancel(0);
        goal("not clear", x, 0, 's', 6);
    }

    /** "of the level behind the one that it has passed, 1 at first". */
    private static void theLevelIsThatBehindTheOnePassed() {
        for (int level = 0; level <= 2; level++) {
            Bagweave x = net("b19 s191 s192 s193", "45 46 47");
            Nets.passed(x, KNOWN, level, 4);
            Check.due("goal, passed " + level, 's', x.goal(0));
            Check.due("next, passed " + level, 5 + level, x.next(0));
            x.setFault(5 + level, true);
            Check.due("no other level, passed " + level, ELEMENT, () -> x.next(0));
        }
    }

    /** "one whose flight is closed, has left or is cancelled, to a desk for problems": before early, or no chute. */
    private static void oneOfAFlightThatIsNotOpenWantsToProblems() {
        Bagweave cancelled = allGoals();
        Nets.clear(cancelled, KNOWN, 'e');
        cancelled.carry(0, 14);
        cancelled.cancel(0);
        goal("cancelled", cancelled, 0, 'q', 9);

        Bagweave left = allGoals();
        left.assign(0, 11, -1);
        Nets.clear(left, KNOWN, 'e');
        left.carry(0, Nets.INPUT);
        left.setTime(0, 2);
        Check.due("open", 'c', left.goal(0));
        left.tick(1);
        Check.due("has left", 'q', left.goal(0));

        Bagweave closed = allGoals();
        closed.addUnit(0, 'e', 1);
        Nets.clear(closed, KNOWN, 'e');
        closed.carry(0, 11);
        closed.setTime(0, 2);
        closed.tick(1);
        Check.due("closed", 'l', closed.stateOf(0));
        closed.setTime(0, 900);
        closed.carry(0, 14);
        goal("closed, and early", closed, 0, 'q', 9);
    }

    private static Bagweave clearAtTickOne(int time) {
        Bagweave x = Nets.of("c19", "");
        x.addFlight(9999);
        x.message(KNOWN, 0, 0);
        x.assign(0, 4, -1);
        Nets.clear(x, KNOWN, 'e');
        x.setTime(0, time);
        return x;
    }

    /** "one whose flight leaves in more ticks than the early limit, 30 at first". */
    private static void theEarlyLimitIsThirtyAtFirst() {
        Check.due("in 30 ticks", 'c', clearAtTickOne(31).goal(0));
        Check.due("in 31 ticks", 'e', clearAtTickOne(32).goal(0));
        Check.due("in 9998 ticks", 'e', clearAtTickOne(9999).goal(0));
    }

    private static void theEarlyLimitIsLeastZero() {
        Bagweave x = clearAtTickOne(2);
        Check.due("in a tick", 'c', x.goal(0));
        x.setEarly(0);
        Check.due("in a tick, limit 0", 'e', x.goal(0));
        x.setEarly(1);
        Check.due("in a tick, limit 1", 'c', x.goal(0));
        x.setEarly(0);
        x.tick(1);
        Check.due("has left", 'q', x.goal(0));
    }

    private static void theEarlyLimitIsMost999() {
        Bagweave x = clearAtTickOne(1000);
        x.setEarly(999);
        Check.due("in 999 ticks, limit 999", 'c', x.goal(0));
        x.setTime(0, 1001);
        Check.due("in 1000 ticks, limit 999", 'e', x.goal(0));
        x.setEarly(998);
        x.setTime(0, 1000);
        Check.due("in 999 ticks, limit 998", 'e', x.goal(0));
    }

    private static void timeGoesByAndTheGoalChanges() {
        Bagweave x = clearAtTickOne(35);
        x.tick(3);
        Check.due("31 ticks before", 'e', x.goal(0));
        x.tick(1);
        Check.due("30 ticks before", 'c', x.goal(0));
    }

    /** "or has no chute, to a store". */
    private static void withoutAChuteToAStore() {
        Bagweave x = allGoals();
        x.setEarly(999);
        Nets.clear(x, KNOWN, 'e');
        x.carry(0, 14);
        goal("no chute", x, 0, 'e', 10);
    }

    /** "otherwise, to the chute of its flight": to no other chute. */
    private static void toTheChuteOfItsFlight() {
        for (int chute = 11; chute <= 12; chute++) {
            Bagweave x = allGoals();
            x.setEarly(999);
            x.assign(0, chute, -1);
            Nets.clear(x, KNOWN, 'e');
            x.carry(0, 14);
            goal("its chute", x, 0, 'c', chute);
            x.setFault(chute, true);
            x.carry(0, 23 - chute);
            Check.due("another chute is not what it wants", 'c', x.goal(0));
            Check.due("and no chute leads on", ELEMENT, () -> x.next(0));
        }
        Bagweave moved = allGoals();
        moved.setEarly(999);
        moved.assign(0, 11, -1);
        Nets.clear(moved, KNOWN, 'e');
        moved.carry(0, 14);
        Check.due("its way before", 11, moved.next(0));
        moved.assign(0, 12, -1);
        Check.due("its way when it was moved", 12, moved.next(0));
    }

    /** Four clear bags at the belt 14, which leads to the chutes 11 and 12, both of room 2. */
    private static Bagweave fourForTheChute(int overflow) {
        Bagweave x = allGoals();
        x.setEarly(999);
        x.assign(0, 11, overflow);
        for (int bag = 0; bag < 6; bag++) {
            Nets.clear(x, KNOWN, 'e');
        }
        for (int bag = 0; bag < 6; bag++) {
            x.carry(bag, bag < 4 ? 14 : Nets.INPUT);
        }
        return x;
    }

    /** "or, if that is full, [...] and there is another one for overflow, to this one": with a place left, it is not. */
    private static void toTheOverflowIfTheChuteIsFull() {
        Bagweave x = fourForTheChute(12);
        Check.due("empty", 11, x.next(3));
        x.carry(0, 11);
        Check.due("a place is left", 11, x.next(3));
        x.carry(1, 11);
        Check.due("full", 12, x.next(3));
        Check.due("still a chute", 'c', x.goal(3));
        x.setFault(12, true);
        Check.due("full, and overflow at fault", ELEMENT, () -> x.next(3));
        x.setFault(12, false);
        x.carry(1, Nets.INPUT);
        x.setFault(11, true);
        Check.due("at fault is not full", ELEMENT, () -> x.next(3));
        Bagweave none = fourForTheChute(-1);
        none.carry(0, 11);
        none.carry(1, 11);
        Check.due("full, without another one", 11, none.next(3));
        none.tick(3);
        Check.due("so it waits", 14, none.nodeOf(3));
    }

    /** "not counting itself there": one that is on the full chute has what it wants. */
    private static void notCountingItselfThere() {
        Bagweave x = fourForTheChute(12);
        x.link(11, 12);
        x.carry(0, 11);
        x.carry(1, 11);
        Check.due("the first one there", ELEMENT, () -> x.next(0));
        Check.due("the last one there", ELEMENT, () -> x.next(1));
        x.tick(3);
        Check.due("both stay", 2, x.onNode(11));
    }

    private static void bothChutesAreFull() {
        Bagweave x = fourForTheChute(12);
        for (int bag = 0; bag < 4; bag++) {
            x.carry(bag, bag < 2 ? 11 : 12);
        }
        x.carry(4, 14);
        Check.due("to the one for overflow", 12, x.next(4));
        Check.due("its cost", 1 + 2, x.wayCost(4));
        x.tick(3);
        Check.due("it waits", 14, x.nodeOf(4));
        x.carry(0, Nets.INPUT);
        Check.due("a place at its chute", 11, x.next(4));
    }

    /** One at the chute for overflow has what it wants while the other one is full, and not longer. */
    private static void backFromTheOverflow() {
        Bagweave x = fourForTheChute(12);
        x.link(12, 14);
        x.carry(0, 11);
        x.carry(1, 11);
        x.carry(2, 12);
        x.carry(3, Nets.INPUT);
        x.tick(2);
        Check.due("it stays", 12, x.nodeOf(2));
        Check.due("as it wants", ELEMENT, () -> x.next(2));
        x.carry(1, Nets.INPUT);
        Check.due("it wants back", 14, x.next(2));
        Check.due("the cost of the belt and the chute with one on it", 1 + 2, x.wayCost(2));
        x.tick(2);
        Check.due("it came back", 11, x.nodeOf(2));
    }

    /** "A bag that is at such a node has what it wants": of the kind and the level; it has no way, and stays. */
    private static void oneAtSuchANodeHasWhatItWants() {
        Bagweave x = net("m19 m19 s191 s191 e19 e19 q19 b19 q19 s193", "45 54 67 76 89 98 bc 6d");
        Nets.read(x, UNKNOWN, 0, 4);
        Nets.passed(x, KNOWN, 2, Nets.INPUT);
        Nets.clear(x, KNOWN, 'e');
        x.carry(2, 8);
        Check.due("no message, at a desk", ELEMENT, () -> x.next(0));
        Check.due("early, at a store", ELEMENT, () -> x.wayCost(2));
        x.tick(2);
        Check.due("they stay", "4 0 8", Nets.places(x));
        Nets.unread(x, KNOWN, 5);
        Check.due("not read, at a desk", ELEMENT, () -> x.next(3));
        x.carry(1, 6);
        Check.due("not its level", 13, x.next(1));
        Nets.read(x, KNOWN, 3, 6);
        Check.due("its level", ELEMENT, () -> x.next(4));
        x.cancel(0);
        Check.due("cancelled, at a store", ELEMENT, () -> x.next(2));
        x.carry(2, 11);
        Check.due("to a desk for problems", 12, x.next(2));
        x.carry(2, 10);
        Check.due("at a desk for problems", ELEMENT, () -> x.next(2));
    }

    // ---- ways ----

    /** "for each node to which it comes, the last one included, its length and the number of bags on it". */
    private static void theCostIsLengthAndBagsOfEachNode() {
        Bagweave x = net("b19 b29 r39 m49", "45 56 67");
        Nets.unread(x, UNKNOWN, 4);
        Check.due("the lengths", 2 + 3 + 4, x.wayCost(0));
        Nets.unread(x, UNKNOWN, 5);
        Check.due("a bag on the belt", 2 + 1 + 3 + 4, x.wayCost(0));
        x.setReader(6, 'm');
        Nets.unread(x, UNKNOWN, 6);
        Check.due("a bag on the reader", 2 + 1 + 3 + 1 + 4, x.wayCost(0));
        Nets.unread(x, UNKNOWN, 7);
        Nets.unread(x, UNKNOWN, 7);
        Check.due("two bags on the last one", 2 + 1 + 3 + 1 + 4 + 2, x.wayCost(0));
        Check.due("from the belt", 3 + 1 + 4 + 2, x.wayCost(1));
        Check.due("from the reader, straight to the end", 4 + 2, x.wayCost(2));
        Check.due("at the end", ELEMENT, () -> x.wayCost(3));
        x.carry(3, Nets.READER);
        Check.due("one less on the last one", 2 + 1 + 3 + 1 + 4 + 1, x.wayCost(0));
    }

    private static void theOwnNodeCostsNothing() {
        Bagweave x = net("b99 m19", "45");
        for (int bag = 0; bag < 9; bag++) {
            Nets.unread(x, UNKNOWN, 4);
        }
        Check.due("the first", 1, x.wayCost(0));
        Check.due("the last", 1, x.wayCost(8));
    }

    /** "that with the least cost": by the lengths, by the number of bags, not by the number of nodes. */
    private static void theWayIsThatOfTheLeastCost() {
        Bagweave x = net("b19 b59 b19 b19 m19", "45 46 67 58 78");
        Nets.unread(x, UNKNOWN, 4);
        Check.due("three short ones, not two with a long one", 6, x.next(0));
        Check.due("its cost", 3, x.wayCost(0));
        for (int bag = 1; bag <= 2; bag++) {
            Nets.unread(x, UNKNOWN, 7);
            Check.due("with bags on it", 6, x.next(0));
        }
        Nets.unread(x, UNKNOWN, 7);
        Check.due("of the same cost now", 6, x.wayCost(0));
        Check.due("the one before has the lower number", 5, x.next(0));
        x.carry(3, 5);
        Check.due("one has changed over", 6, x.next(0));
        Check.due("the cost is less", 5, x.wayCost(0));
    }

    /** "The way of a bag leads from its node over belts, with readers or not": over nothing else. */
    private static void theWayLeadsOverBeltsAlone() {
        for (String kind : new String[] {"b19", "r19", "s191", "s193", "m19", "e19", "c19"}) {
            Bagweave x = net("b19 " + kind + " s192", "45 56");
            Nets.passed(x, KNOWN, 1, 4);
            if (kind.startsWith("b") || kind.startsWith("r")) {
                Check.due("over " + kind, 5, x.next(0));
            } else {
                Check.due("not over " + kind, ELEMENT, () -> x.next(0));
                x.carry(0, 5);
                Check.due("but from it, " + kind, 6, x.next(0));
            }
        }
        Bagweave x = net("i19 m19", "45");
        x.addBag(4, UNKNOWN, 0, 'e');
        Check.due("from an input", 5, x.next(0));
    }

    /** "nodes at fault are none of it": at the beginning, in the midst, and at the end. */
    private static void nodesAtFaultAreNoneOfTheWay() {
        for (int fault = 5; fault <= 7; fault++) {
            Bagweave x = net("b19 b19 b19 m19 b99 m19", "45 56 67 48 89");
            Nets.unread(x, UNKNOWN, 4);
            Check.due("without a fault", 5, x.next(0));
            x.setFault(fault, true);
            Check.due("node " + fault, 8, x.next(0));
            Check.due("cost without node " + fault, 9 + 1, x.wayCost(0));
            x.setFault(8, true);
            Check.due("both ways, " + fault, ELEMENT, () -> x.next(0));
            x.setFault(fault, false);
            Check.due("the first one again, " + fault, 5, x.next(0));
        }
    }

    /** The node on which it is is none to which it comes; so its fault, which holds the bag, leaves the way. */
    private static void theOwnNodeMayBeAtFault() {
        Bagweave x = net("b19 m19", "45");
        Nets.unread(x, UNKNOWN, 4);
        x.setFault(4, true);
        x.tick(2);
        Check.due("it is held", 4, x.nodeOf(0));
        Check.due("its way", 5, x.next(0));
        Check.due("its cost", 1, x.wayCost(0));
    }

    /** "Of several, the node to which it comes next has the lowest number": in whatever order they were linked. */
    private static void ofSeveralTheLowestNextNode() {
        for (String links : new String[] {"45 46 47 58 68 78", "47 46 45 58 68 78", "46 47 45 78 68 58"}) {
            Bagweave x = net("b19 b19 b19 b19 m19", links);
            Nets.unread(x, UNKNOWN, 4);
            Check.due("of three, " + links, 5, x.next(0));
            Check.due("the cost is the same", 2, x.wayCost(0));
            x.setFault(5, true);
            Check.due("of two, " + links, 6, x.next(0));
            x.setFault(6, true);
            Check.due("of one, " + links, 7, x.next(0));
        }
        Bagweave ends = net("b19 m19 m19 m19", "47 46 45");
        Nets.unread(ends, UNKNOWN, 4);
        Check.due("of three ends", 5, ends.next(0));
        Nets.unread(ends, UNKNOWN, 5);
        Check.due("one on the lowest", 6, ends.next(0));
        Bagweave behind = net("b19 b19 b19 m19 m29", "45 46 58 67");
        Nets.unread(behind, UNKNOWN, 4);
        Check.due("the cost goes before the number", 6, behind.next(0));
        behind.setFault(6, true);
        Check.due("then the lower one", 5, behind.next(0));
    }

    /** As long a way as there are nodes for, by rising and by falling numbers. */
    private static void theWayHasManyBelts() {
        for (boolean isRising : new boolean[] {true, false}) {
            Bagweave x = new Bagweave();
            x.addNode('i', 1, 1, 0);
            for (int i = 1; i < 20; i++) {
                x.addNode(i == (isRising ? 19 : 1) ? 'm' : 'b', 9, 9, 0);
            }
            x.link(0, isRising ? 1 : 19);
            for (int i = 1; i < 19; i++) {
                x.link(isRising ? i : i + 1, isRising ? i + 1 : i);
            }
            x.addBag(0, 0, 0, 'e');
            Check.due("the cost, rising " + isRising, 19 * 9, x.wayCost(0));
            Check.due("the next one", isRising ? 1 : 19, x.next(0));
            x.tick(1);
            Check.due("it went on", isRising ? 1 : 19, x.nodeOf(0));
            Check.due("the cost of the rest", 18 * 9, x.wayCost(0));
        }
    }

    private static void theWayIsOneWay() {
        Bagweave x = net("b19 m19", "54");
        Nets.unread(x, UNKNOWN, 4);
        Check.due("the link leads the other way", ELEMENT, () -> x.next(0));
        x.link(4, 5);
        Check.due("now this way, too", 5, x.next(0));
    }

    /** "Without a way, it waits": for a link, or for a fault to end. */
    private static void withoutAWayItWaits() {
        Bagweave x = net("b19 b19 m19", "56");
        Nets.unread(x, UNKNOWN, 4);
        x.tick(60);
        Check.due("it waits", 4, x.nodeOf(0));
        Check.due("it wants to a desk", 'm', x.goal(0));
        Check.due("no way", ELEMENT, () -> x.next(0));
        Check.due("nor its cost", ELEMENT, () -> x.wayCost(0));
        x.link(4, 5);
        x.tick(1);
        Check.due("it goes on", 5, x.nodeOf(0));
    }

    private static void theNearestOfSeveralEnds() {
        Bagweave x = net("b19 b19 m99 b19 b19 m19", "45 56 47 78 89");
        Nets.unread(x, UNKNOWN, 4);
        Check.due("the end behind three", 7, x.next(0));
        Check.due("its cost", 3, x.wayCost(0));
        x.setFault(9, true);
        Check.due("the other end", 5, x.next(0));
        Check.due("its cost", 10, x.wayCost(0));
    }
}
