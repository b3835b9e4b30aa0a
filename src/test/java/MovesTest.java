/** The boundary cases of the parts 1 to 3 of a tick: ticks to do, bags that go on, and rings. */
public final class MovesTest {
    private static final int KNOWN = 7;
    private static final int UNKNOWN = 9;

    private MovesTest() {
    }

    public static void main(String[] args) {
        theNumberOfTicksBecomesOneGreater();
        eachTickIsDoneAlone();
        aTickDoneIsDoneBeforeBagsGoOn();
        aNodeLetsOneGo();
        aNodeTakesOne();
        oneThatWasCarriedThereIsNoneThatCameInTheTick();
        againAndAgainUntilNoneLetsABagGo();
        lowerNumbersGoFirst();
        theBagComesBehindTheOthers();
        theNextNodeHasRoomForOne();
        theWayIsFoundAsTheBagIsLookedAt();
        theWayIsFoundAnewInEachRound();
        oneThatCameInThisTickDoesNotGoOn();
        theNextOfADeskIsLookedAtIfTheFirstCannot();
        aRingOfTwo();
        aRingOfNineteen();
        twoRingsInATick();
        aRingOncePerTick();
        noRingIfOneHasRoom();
        noRingIfOneIsAtFault();
        noRingIfAFirstBagHasATickToDo();
        noRingIfAFirstBagHasWhatItWants();
        noRingIfANodeLetOneGo();
        noRingIfOneCameToANode();
        noRingIfItDoesNotLeadBack();
        fromTheFirstBagThatWantsElsewhere();
        bagsOfARingComeToTheirNodes();
        Check.end();
    }

    private static Bagweave net(String nodes, String links) {
        Bagweave x = Nets.of(nodes, links);
        x.addFlight(9000);
        x.message(KNOWN, 0, 0);
        return x;
    }

    // ---- part 1 ----

    private static void theNumberOfTicksBecomesOneGreater() {
        Bagweave x = new Bagweave();
        for (int i = 1; i <= 3; i++) {
            Check.due("without nodes", i, x.tick(1));
        }
        Check.due("sixty more", 63, x.tick(60));
        Check.due("told", 63, x.ticks());
    }

    /** Many ticks at once are the same as each alone. */
    private static void eachTickIsDoneAlone() {
        Bagweave one = net("b19 b29 m39", "45 56");
        Bagweave other = net("b19 b29 m39", "45 56");
        for (int i = 0; i < 5; i++) {
            Nets.unread(one, KNOWN, 4);
            Nets.unread(other, KNOWN, 4);
        }
        one.tick(6);
        for (int i = 0; i < 6; i++) {
            other.tick(1);
        }
        for (int part = 0; part < 2; part++) {
            Check.due("alike, part " + part, Probe.tell(one, part), Probe.tell(other, part));
        }
    }

    /** Part 1 comes before part 2: a bag leaves in the tick in which its last one is done, read and screened then. */
    private static void aTickDoneIsDoneBeforeBagsGoOn() {
        Bagweave x = net("m19 s191 s192 e19", "45 56 57 67");
        Nets.unread(x, KNOWN, 4);
        x.tick(1);
        Check.due("read, and gone on", 5, x.nodeOf(0));
        x.tick(1);
        Check.due("clear, and gone on", 7, x.nodeOf(0));
    }

    // ---- part 2 ----

    /** "a node that did not yet let one go in this tick": though two could go, to two nodes. */
    private static void aNodeLetsOneGo() {
        for (String kind : new String[] {"i19", "b19", "r19", "m19", "e19", "c19"}) {
            Bagweave x = net(kind + " s111 s111", "45 46");
            Nets.read(x, KNOWN, 3, 4);
            Nets.read(x, KNOWN, 3, 4);
            x.tick(1);
            Check.due("one left " + kind, "5 4", Nets.places(x));
            x.tick(1);
            Check.due("then the other one left " + kind, "5 6", Nets.places(x));
        }
    }

    /** "and no bag came to it in this tick": though there is room for two. */
    private static void aNodeTakesOne() {
        for (String kind : new String[] {"b19", "r19", "s191"}) {
            Bagweave x = net("b19 b19 " + kind + " s191", "46 56 67");
            Nets.read(x, KNOWN, 3, 5);
            Nets.read(x, KNOWN, 3, 4);
            x.tick(1);
            Check.due("one came to " + kind, "5 6", Nets.places(x));
            x.tick(1);
            Check.due("then the other one came to " + kind, 6, x.nodeOf(0));
        }
    }

    private static void oneThatWasCarriedThereIsNoneThatCameInTheTick() {
        Bagweave x = net("b19 m19", "45");
        Nets.unread(x, KNOWN, 4);
        Nets.unread(x, KNOWN, 5);
        x.tick(1);
        Check.due("one was carried, one came", "5 5", Nets.places(x));
        Bagweave brought = Nets.bare("i19 m19");
        brought.link(0, 1);
        brought.addBag(0, 1, 0, 'e');
        brought.tick(1);
        Check.due("one that was brought goes on in the next tick", 1, brought.nodeOf(0));
    }

    /** "again and again until none lets a bag go": a full line by rising numbers moves whole in one tick. */
    private static void againAndAgainUntilNoneLetsABagGo() {
        StringBuilder nodes = new StringBuilder("i11 ");
        for (int i = 1; i < 19; i++) {
            nodes.append("b11 ");
        }
        Bagweave x = Nets.bare(nodes + "m19");
        for (int i = 0; i < 19; i++) {
            x.link(i, i + 1);
        }
        for (int i = 18; i >= 0; i--) {
            int bag = x.addBag(0, UNKNOWN, 0, 'e');
            if (i > 0) {
                x.carry(bag, i);
            }
        }
        x.tick(1);
        for (int bag = 0; bag < 19; bag++) {
            Check.due("bag " + bag, 19 - bag, x.nodeOf(bag));
        }
        Check.due("each one once", 19L + 18 + 19, x.moves());
    }

    /** "Nodes are gone through by rising numbers": the lower one takes the place. */
    private static void lowerNumbersGoFirst() {
        for (int first = 4; first <= 5; first++) {
            Bagweave x = net("b19 b19 m11", "46 56");
            Nets.unread(x, KNOWN, first);
            Nets.unread(x, KNOWN, 9 - first);
            x.tick(1);
            Check.due("the lower one's, brought as " + (first - 4), first == 4 ? "6 5" : "5 6", Nets.places(x));
        }
        Bagweave behind = net("m11 b19 b19", "54 64");
        Nets.unread(behind, KNOWN, 6);
        Nets.unread(behind, KNOWN, 5);
        behind.tick(1);
        Check.due("the end has the lowest number", "6 4", Nets.places(behind));
    }

    private static void theBagComesBehindTheOthers() {
        Bagweave x = net("b19 b19 m19", "45");
        Nets.unread(x, KNOWN, 4);
        Nets.unread(x, KNOWN, 5);
        Nets.unread(x, KNOWN, 5);
        x.link(5, 6);
        x.tick(1);
        Check.due("one came, one left", "5 6 5", Nets.places(x));
        Check.due("the first", 2, x.bagOn(5, 0));
        Check.due("the last", 0, x.bagOn(5, 1));
    }

    /** "the next node of its way has room": for the last place, and not beyond. */
    private static void theNextNodeHasRoomForOne() {
        Bagweave x = net("b19 m13", "45");
        for (int i = 0; i < 2; i++) {
            Nets.unread(x, KNOWN, 5);
        }
        Nets.unread(x, KNOWN, 4);
        Nets.unread(x, KNOWN, 4);
        x.tick(1);
        Check.due("the last place", "5 5 5 4", Nets.places(x));
        x.tick(5);
        Check.due("no more", "5 5 5 4", Nets.places(x));
        Check.due("it has a way", 5, x.next(3));
    }

    /** "The way is found as the bag is looked at": so a bag that came in this tick counts for the next one's way. */
    private static void theWayIsFoundAsTheBagIsLookedAt() {
        Bagweave x = net("b19 b19 b19 b19 m19", "46 47 56 57 68 78");
        Nets.unread(x, UNKNOWN, 4);
        Nets.unread(x, UNKNOWN, 5);
        Check.due("before, the lower one", 6, x.next(0));
        Check.due("before, both", 6, x.next(1));
        x.tick(1);
        Check.due("each its own", "6 7", Nets.places(x));
        Bagweave longer = net("b19 b19 b19 b39 m19", "46 47 56 57 68 78");
        Nets.unread(longer, UNKNOWN, 4);
        Nets.unread(longer, UNKNOWN, 5);
        longer.tick(1);
        Check.due("it waits for the one that took a bag, since it still costs less", "6 5", Nets.places(longer));
    }

    /** The same node is looked at again in the tick, and then the way may be another one. */
    private static void theWayIsFoundAnewInEachRound() {
        Bagweave x = net("b19 b19 b19 b19 m19", "47 56 57 68 78");
        Nets.unread(x, UNKNOWN, 4);
        Nets.unread(x, UNKNOWN, 5);
        Nets.unread(x, UNKNOWN, 6);
        Nets.unread(x, UNKNOWN, 6);
        Check.due("before", 7, x.next(1));
        x.tick(1);
        Check.due("first to one that took a bag, then to one that let a bag go", "7 6 8 6", Nets.places(x));
    }

    /** "A bag that came in this tick does not go on": even of length 1, and with room all along. */
    private static void oneThatCameInThisTickDoesNotGoOn() {
        Bagweave x = net("b19 b19 b19 m19", "45 56 67");
        Nets.unread(x, UNKNOWN, 4);
        for (int node = 5; node <= 7; node++) {
            x.tick(1);
            Check.due("one node a tick", node, x.nodeOf(0));
            Check.due("its ticks are still to do", 1, x.left(0));
        }
    }

    /** "the first bag leaves that wants to and can": of a store, if the first has a tick to do, no way or no room. */
    private static void theNextOfADeskIsLookedAtIfTheFirstCannot() {
        Bagweave x = net("e19 m11 s111 b19", "45 46");
        Nets.unread(x, UNKNOWN, 5);
        Nets.unread(x, UNKNOWN, 4);
        Nets.read(x, KNOWN, 3, 4);
        x.tick(1);
        Check.due("no room for the first", "5 4 6", Nets.places(x));
        Nets.read(x, KNOWN, 3, 4);
        x.carry(2, Nets.INPUT);
        x.setFault(5, true);
        x.tick(1);
        Check.due("no way for the first", "5 4 0 6", Nets.places(x));
    }

    // ---- part 3 ----

    /**
     * A ring of the belts 4 to 6 with a goal at each: 4 leads to the desk 7, 5 to the screening 8, 6 to the store 9. The
     * bag 0 wants to the store, 1 to the desk, 2 to the screening, and they are put so that none is at its goal.
     */
    private static Bagweave ring(String belts, String more, String links) {
        Bagweave x = net(belts + " m19 s191 e19 " + more, ("45 56 64 47 58 69 " + links).trim());
        Nets.clear(x, KNOWN, 'e');
        x.carry(0, 4);
        Nets.unread(x, UNKNOWN, 5);
        Nets.read(x, KNOWN, 3, 6);
        return x;
    }

    private static void aRingOfTwo() {
        Bagweave x = net("b11 b11 m19 s191", "45 54 46 57");
        Nets.read(x, KNOWN, 3, 4);
        Nets.unread(x, KNOWN, 5);
        x.tick(1);
        Check.due("changed over", "5 4", Nets.places(x));
        Check.due("a ring", 1, x.rings());
        x.tick(1);
        Check.due("to their goals", "7 6", Nets.places(x));
        Check.due("no other ring", 1, x.rings());
    }

    /** As many nodes as a ring can have beside the input: a desk 1, readers, a screening 10, belts. */
    private static void aRingOfNineteen() {
        Bagweave x = Nets.bare("i19 m11" + " r11".repeat(8) + " s111" + " b11".repeat(9));
        x.addFlight(9000);
        x.message(KNOWN, 0, 0);
        for (int node = 1; node <= 19; node++) {
            x.link(node, node == 19 ? 1 : node + 1);
            x.carry(x.addBag(0, KNOWN, 3, 'e'), node);
        }
        x.tick(1);
        Check.due("a ring", 1, x.rings());
        for (int node = 1; node <= 19; node++) {
            Check.due("from node " + node, node == 19 ? 1 : node + 1, x.nodeOf(node - 1));
        }
        Check.due("each one once", 19L + 19 + 19, x.moves());
    }

    private static void twoRingsInATick() {
        Bagweave x = net("b11 b11 m19 s191 b11 b11 m19 s191", "45 54 46 57 89 98 8a 9b");
        Nets.read(x, KNOWN, 3, 4);
        Nets.unread(x, KNOWN, 5);
        Nets.read(x, KNOWN, 3, 8);
        Nets.unread(x, KNOWN, 9);
        x.tick(1);
        Check.due("both changed over", "5 4 9 8", Nets.places(x));
        Check.due("two rings", 2, x.rings());
    }

    /** "then all of these go on at once": once in a tick, though they would go round again. */
    private static void aRingOncePerTick() {
        Bagweave x = ring("b11 b11 b11", "", "");
        x.tick(1);
        Check.due("once round", "5 6 4", Nets.places(x));
        Check.due("one ring", 1, x.rings());
        x.tick(1);
        Check.due("twice round", "6 4 5", Nets.places(x));
        Check.due("two rings", 2, x.rings());
        x.tick(1);
        Check.due("to their goals", "9 7 8", Nets.places(x));
        Check.due("still two rings", 2, x.rings());
    }

    /** "each of a node that is full": with a place left at any of them they go one by one, and it is no ring. */
    private static void noRingIfOneHasRoom() {
        for (String belts : new String[] {"b12 b11 b11", "b11 b12 b11", "b11 b11 b12"}) {
            Bagweave x = ring(belts, "", "");
            x.tick(1);
            Check.due("each goes on, " + belts, "5 6 4", Nets.places(x));
            Check.due("no ring, " + belts, 0, x.rings());
        }
    }

    private static void noRingIfOneIsAtFault() {
        for (int node = 4; node <= 6; node++) {
            Bagweave x = ring("b11 b11 b11", "", "");
            x.setFault(7, true);
            x.setFault(8, true);
            x.setFault(9, true);
            x.tick(1);
            x.setFault(7, false);
            x.setFault(8, false);
            x.setFault(9, false);
            x.setFault(node, true);
            x.tick(2);
            Check.due("it stands, fault of " + node, "4 5 6", Nets.places(x));
            Check.due("no ring, fault of " + node, 0, x.rings());
            x.setFault(node, false);
            x.tick(1);
            Check.due("it goes on, fault of " + node, "5 6 4", Nets.places(x));
        }
    }

    /** "and has done its ticks". */
    private static void noRingIfAFirstBagHasATickToDo() {
        for (String belts : new String[] {"b21 b11 b11", "b11 b21 b11", "b11 b11 b21"}) {
            Bagweave x = ring(belts, "", "");
            x.tick(1);
            Check.due("a tick to do, " + belts, "4 5 6", Nets.places(x));
            Check.due("no ring, " + belts, 0, x.rings());
            x.tick(1);
            Check.due("all done, " + belts, "5 6 4", Nets.places(x));
            Check.due("a ring, " + belts, 1, x.rings());
        }
    }

    /** "whose first bag that wants elsewhere": at a screening, one that has what it wants holds those behind it. */
    private static void noRingIfAFirstBagHasWhatItWants() {
        for (boolean isHeld : new boolean[] {true, false}) {
            Bagweave x = net("s123 b11 m19", "45 54 56");
            Nets.passed(x, KNOWN, 2, Nets.INPUT);
            Nets.passed(x, KNOWN, 2, 5);
            if (isHeld) {
                x.carry(0, 4);
            }
            Nets.unread(x, UNKNOWN, 4);
            if (!isHeld) {
                x.carry(0, 4);
            }
            x.tick(1);
            Check.due("held: " + isHeld, isHeld ? "4 5 4" : "4 4 5", Nets.places(x));
            Check.due("rings, held: " + isHeld, isHeld ? 0 : 1, x.rings());
        }
    }

    /** The input 4 and the belt 5 lead to the store 6 of room 2, which leads to the belt 7, and this to the belt 5. */
    private static Bagweave ringWithAStore() {
        Bagweave x = net("i19 b11 e12 b11 m19 s191", "46 56 67 75 58 69");
        Nets.clear(x, KNOWN, 'e');
        Nets.clear(x, KNOWN, 'e');
        x.carry(0, 5);
        x.carry(1, 4);
        Nets.unread(x, UNKNOWN, 6);
        Nets.unread(x, UNKNOWN, 7);
        return x;
    }

    /** "did not let one go": the store let one go to the screening, and is full again. */
    private static void noRingIfANodeLetOneGo() {
        Bagweave x = ringWithAStore();
        Nets.read(x, KNOWN, 3, 6);
        x.tick(1);
        Check.due("one left the store, one came", "5 6 6 7 9", Nets.places(x));
        Check.due("no ring", 0, x.rings());
        x.tick(1);
        Check.due("in the next tick they go on", "6 6 7 5 9", Nets.places(x));
        Check.due("a ring", 1, x.rings());
    }

    /** "and to which none came": the store was not full before. */
    private static void noRingIfOneCameToANode() {
        Bagweave x = ringWithAStore();
        x.tick(1);
        Check.due("one came to the store", "5 6 6 7", Nets.places(x));
        Check.due("no ring", 0, x.rings());
        x.tick(1);
        Check.due("in the next tick they go on", "6 6 7 5", Nets.places(x));
        Check.due("a ring", 1, x.rings());
    }

    /** "leads to the first node again": a full line before a full end is none, and one beside a ring stays. */
    private static void noRingIfItDoesNotLeadBack() {
        Bagweave line = net("b11 b11 m11", "45 56");
        for (int node = 4; node <= 6; node++) {
            Nets.read(line, UNKNOWN, 3, node);
        }
        line.tick(5);
        Check.due("it stands", "4 5 6", Nets.places(line));
        Check.due("no ring", 0, line.rings());
        Bagweave beside = net("b11 b11 b11 m19 s191", "45 56 65 57 68");
        Nets.unread(beside, UNKNOWN, 4);
        Nets.read(beside, KNOWN, 3, 5);
        Nets.unread(beside, UNKNOWN, 6);
        beside.tick(1);
        Check.due("the ring goes on, the one before it stays", "4 6 5", Nets.places(beside));
        Check.due("a ring", 1, beside.rings());
    }

    /** "whose first bag that wants elsewhere and has done its ticks could go but for room": of a store, the first. */
    private static void fromTheFirstBagThatWantsElsewhere() {
        for (boolean hasWay : new boolean[] {true, false}) {
            Bagweave x = net("e13 b11 m19 s191", "45 54 56 57");
            Nets.clear(x, KNOWN, 'e');
            Nets.clear(x, KNOWN, 'e');
            Nets.passed(x, KNOWN, 1, Nets.READER);
            x.carry(0, 4);
            x.carry(1, 5);
            if (hasWay) {
                Nets.read(x, KNOWN, 3, 4);
            } else {
                x.carry(2, 4);
            }
            Nets.unread(x, UNKNOWN, 4);
            x.tick(1);
            Check.due("a ring, the first with a way: " + hasWay, hasWay ? 1 : 0, x.rings());
            Check.due("one to the store, with a way: " + hasWay, hasWay ? 4 : 5, x.nodeOf(1));
            Check.due("the first that wants elsewhere, with a way: " + hasWay, hasWay ? 5 : 4, x.nodeOf(hasWay ? 3 : 2));
        }
    }

    private static void bagsOfARingComeToTheirNodes() {
        Bagweave x = net("b11 r32 m19 s191", "45 54 46 57");
        x.setReader(5, 'm');
        Nets.read(x, KNOWN, 3, 4);
        Nets.unread(x, UNKNOWN, 5);
        Nets.unread(x, UNKNOWN, 5);
        long before = x.moves();
        x.tick(3);
        Check.due("changed over", "5 4 5", Nets.places(x));
        Check.due("behind the other one", 0, x.bagOn(5, 1));
        Check.due("with all its ticks to do", 3, x.left(0));
        Check.due("and the other one", 1, x.left(1));
        Check.due("two came", before + 2, x.moves());
        Check.due("a ring", 1, x.rings());
    }
}
