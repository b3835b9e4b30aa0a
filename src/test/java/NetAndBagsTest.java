import java.util.NoSuchElementException;

/** The boundary cases of the terms "Net", "Bags" and "Messages", a test for each sentence. */
public final class NetAndBagsTest {
    private static final Class<NoSuchElementException> ELEMENT = NoSuchElementException.class;
    private static final Class<IllegalStateException> STATE = IllegalStateException.class;
    private static final Class<UnsupportedOperationException> SUPPORT = UnsupportedOperationException.class;
    /** A tag with a message, and one without. */
    private static final int KNOWN = 7;
    private static final int UNKNOWN = 9;

    private NetAndBagsTest() {
    }

    public static void main(String[] args) {
        twentyNodesAreNumberedFromZero();
        aNodeHasALengthFromOneToNine();
        aNodeHasARoomFromOneToNine();
        aNodeLeadsToFour();
        aScreeningHasALevel();
        onlyTheFirstBagLeavesARow();
        theFirstThatWantsToAndCanLeavesADesk();
        noBagLeavesADeskForProblems();
        aNodeAtFaultTakesNone();
        aNodeAtFaultLetsNoneGo();
        bagsOnANodeAtFaultDoNotGoOn();
        bagsGoOnWhenTheFaultHasEnded();
        fiftyBagsAreNumberedFromZero();
        aBagNeedsAsManyTicksAsTheLengthWhenItComes();
        aReaderReadsTheTagOrTheNextOneOrNothing();
        aReaderReadsAsABagComes();
        aReaderReadsOnlyOneThatWasNotRead();
        onlyAReaderReadsAsABagComes();
        aDeskForCodingReadsRightAfterTheTicks();
        aDeskForCodingReadsOnlyOneThatWasNotRead();
        aBagIsClearIfItsSuspicionIsLessThanTheLevel();
        aBagIsScreenedAfterItsTicks();
        levelThreeClearsByAVerdictOnly();
        aVerdictCanTakeOut();
        aBagHasPassedTheLevelWhicheverBefore();
        aClearBagPassesNoLevel();
        theLastMessageForATagCounts();
        theFlightIsThatOfTheTagThatWasRead();
        thePassengerIsThatOfItsOwnTag();
        Check.end();
    }

    private static Bagweave net(String nodes, String links) {
        Bagweave x = Nets.of(nodes, links);
        x.addFlight(500);
        x.message(KNOWN, 0, 0);
        return x;
    }

    // ---- Net ----

    /** "At most 20 nodes are numbered from 0": the last one is as good as the others. */
    private static void twentyNodesAreNumberedFromZero() {
        Bagweave x = new Bagweave();
        for (int i = 0; i < 20; i++) {
            Check.due("node " + i, i, x.addNode(i == 0 ? 'i' : i == 19 ? 'm' : 'b', 1, 1, 0));
        }
        Check.due("the 21st", STATE, () -> x.addNode('b', 1, 1, 0));
        x.link(0, 18);
        x.link(18, 19);
        x.addBag(0, KNOWN, 0, 'e');
        Check.due("over the 19th to the 20th", 2, x.wayCost(0));
        x.tick(1);
        Check.due("on the 19th", 18, x.nodeOf(0));
        x.tick(1);
        Check.due("on the 20th", 19, x.nodeOf(0));
        Check.due("one is on the 20th", 1, x.onNode(19));
        x.tick(1);
        Check.due("read by the 20th", KNOWN, x.readTag(0));
    }

    /** "a length from 1 to 9": a bag leaves in the tick in which it has done them, not before. */
    private static void aNodeHasALengthFromOneToNine() {
        for (int length = 1; length <= 9; length++) {
            Bagweave x = Nets.of("b" + length + "9 m19", "45");
            int bag = Nets.unread(x, KNOWN, 4);
            Check.due("to do, of " + length, length, x.left(bag));
            if (length > 1) {
                x.tick(length - 1);
            }
            Check.due("a tick before, of " + length, 4, x.nodeOf(bag));
            Check.due("to do a tick before, of " + length, 1, x.left(bag));
            x.tick(1);
            Check.due("at its tick, of " + length, 5, x.nodeOf(bag));
        }
    }

    /** "a room from 1 to 9": for bags that come by a tick, that are carried, and that are brought. */
    private static void aNodeHasARoomFromOneToNine() {
        for (int room = 1; room <= 9; room++) {
            Bagweave x = Nets.of("m1" + room + " b19 i1" + room, "54");
            for (int i = 1; i < room; i++) {
                Nets.unread(x, KNOWN, 4);
            }
            int last = Nets.unread(x, KNOWN, 5);
            int beyond = Nets.unread(x, KNOWN, 5);
            x.tick(1);
            Check.due("the last place by a tick, of " + room, 4, x.nodeOf(last));
            x.tick(3);
            Check.due("none beyond by a tick, of " + room, 5, x.nodeOf(beyond));
            Check.due("none beyond by hand, of " + room, STATE, () -> x.carry(beyond, 4));
            Check.due("full, of " + room, room, x.onNode(4));
            x.carry(last, Nets.INPUT);
            x.carry(beyond, 4);
            Check.due("the last place by hand, of " + room, room, x.onNode(4));
            for (int i = 1; i <= room; i++) {
                x.addBag(6, KNOWN, 0, 'e');
                Check.due("brought, of " + room, i, x.onNode(6));
            }
            Check.due("none beyond is brought, of " + room, SUPPORT, () -> x.addBag(6, KNOWN, 0, 'e'));
        }
    }

    /** "at most 4 nodes to which it leads": the way goes by each of the four. */
    private static void aNodeLeadsToFour() {
        for (int goal = 5; goal <= 8; goal++) {
            StringBuilder nodes = new StringBuilder("b19");
            for (int node = 5; node <= 8; node++) {
                nodes.append(node == goal ? " m19" : " e19");
            }
            Bagweave x = Nets.of(nodes + " m19", "45 46 47 48");
            Check.due("the 5th", STATE, () -> x.link(4, 9));
            int bag = Nets.unread(x, KNOWN, 4);
            Check.due("the way to " + goal, goal, x.next(bag));
            x.tick(1);
            Check.due("went to " + goal, goal, x.nodeOf(bag));
        }
    }

    /** "a screening of a level 1, 2 or 3": a bag wants to that behind the level that it has passed. */
    private static void aScreeningHasALevel() {
        for (int level = 1; level <= 3; level++) {
            Bagweave x = net("b19 s191 s192 s193", "45 46 47");
            Nets.passed(x, KNOWN, level - 1, 4);
            Check.due("passed before " + level, level - 1, x.level(0));
            Check.due("a screening of the level " + level, 4 + level, x.next(0));
        }
    }

    /** "Inputs, belts and screenings are rows: only the first bag, the one that came first, can leave." */
    private static void onlyTheFirstBagLeavesARow() {
        for (String row : new String[] {"i19", "b19", "r19", "s192", "s193"}) {
            Bagweave x = net(row + " s191 s193", "45 46");
            Nets.read(x, UNKNOWN, 3, 4);
            Nets.read(x, KNOWN, 3, 4);
            x.tick(3);
            Check.due("the second has a way from " + row, row.equals("s192") ? 6 : 5, x.next(1));
            Check.due("it stands behind the first on " + row, "4 4", Nets.places(x));
            x.carry(0, Nets.INPUT);
            x.carry(0, 4);
            x.tick(1);
            Check.due("it is the one that came first now on " + row, row.equals("s192") ? "4 6" : "4 5", Nets.places(x));
        }
    }

    /** "From a desk for coding, a store or a chute, the first bag leaves that wants to and can." */
    private static void theFirstThatWantsToAndCanLeavesADesk() {
        for (String desk : new String[] {"m19", "e19", "c19"}) {
            Bagweave x = net(desk + " s111 s192", "45 46");
            Nets.passed(x, KNOWN, 1, Nets.READER);
            Nets.read(x, UNKNOWN, 3, 4);
            Nets.read(x, KNOWN, 3, 4);
            Nets.read(x, KNOWN, 3, 4);
            x.carry(0, 4);
            x.setFault(5, true);
            x.setFault(6, true);
            x.tick(1);
            x.setFault(5, false);
            x.setFault(6, false);
            x.tick(1);
            Check.due("the first that has a way leaves " + desk, "4 4 5 4", Nets.places(x));
            x.carry(2, Nets.READER);
            x.carry(2, 5);
            x.tick(1);
            Check.due("the one behind it takes the other way from " + desk, 6, x.nodeOf(0));
        }
    }

    /** "No bag leaves a desk for problems": though it wants elsewhere, and there is such a node. */
    private static void noBagLeavesADeskForProblems() {
        Bagweave x = net("q19 m19", "54");
        Nets.unread(x, KNOWN, 4);
        Check.due("none leads on", IllegalArgumentException.class, () -> x.link(4, 5));
        x.tick(60);
        Check.due("it stays", 4, x.nodeOf(0));
        Check.due("it wants elsewhere", 'm', x.goal(0));
        Check.due("by hand it leaves", 4, x.carry(0, 5));
    }

    /** "A node that is at fault takes none": brought, by hand, and by a tick. */
    private static void aNodeAtFaultTakesNone() {
        Bagweave x = net("i19 b19 m19", "56");
        x.setFault(4, true);
        Check.due("brought", SUPPORT, () -> x.addBag(4, KNOWN, 0, 'e'));
        Nets.unread(x, KNOWN, 5);
        Check.due("by hand", STATE, () -> x.carry(0, 4));
        x.setFault(6, true);
        x.tick(3);
        Check.due("by a tick", 5, x.nodeOf(0));
        x.setFault(6, false);
        x.tick(1);
        Check.due("without its fault", 6, x.nodeOf(0));
    }

    /** "and lets none go": though its bag has done its ticks, and can be carried. */
    private static void aNodeAtFaultLetsNoneGo() {
        for (String kind : new String[] {"i19", "b19", "r19", "s192", "s193", "m19", "e19", "c19"}) {
            Bagweave x = net(kind + " s191 s193", "45 46");
            Nets.read(x, KNOWN, 3, 4);
            x.setFault(5, true);
            x.setFault(6, true);
            x.tick(1);
            Check.due("done on " + kind, 0, x.left(0));
            x.setFault(4, true);
            x.setFault(5, false);
            x.setFault(6, false);
            x.tick(2);
            Check.due("it does not leave " + kind, 4, x.nodeOf(0));
            x.setFault(4, false);
            x.tick(1);
            Check.due("without its fault it leaves " + kind, kind.equals("s192") ? 6 : 5, x.nodeOf(0));
        }
    }

    /** "and its bags do not go on": they do no ticks, so they are neither read nor screened. */
    private static void bagsOnANodeAtFaultDoNotGoOn() {
        Bagweave x = net("m29 s291", "");
        Nets.unread(x, KNOWN, 4);
        Nets.read(x, KNOWN, 0, 5);
        x.tick(1);
        x.setFault(4, true);
        x.setFault(5, true);
        x.tick(60);
        Check.due("a tick to do at the desk", 1, x.left(0));
        Check.due("not read", ELEMENT, () -> x.readTag(0));
        Check.due("a tick to do at the screening", 1, x.left(1));
        Check.due("not clear", false, x.isClear(1));
    }

    private static void bagsGoOnWhenTheFaultHasEnded() {
        Bagweave x = net("m29", "");
        Nets.unread(x, KNOWN, 4);
        x.setFault(4, true);
        x.tick(1);
        x.setFault(4, false);
        x.tick(1);
        Check.due("one of two done", 1, x.left(0));
        x.tick(1);
        Check.due("read", KNOWN, x.readTag(0));
    }

    // ---- Bags ----

    /** "At most 50 bags are numbered from 0": the last one is as good as the others. */
    private static void fiftyBagsAreNumberedFromZero() {
        Bagweave x = Nets.of("m19 b19 b19 b19 b19", "");
        x.link(Nets.INPUT, 4);
        for (int i = 0; i < 50; i++) {
            Check.due("bag " + i, i, x.addBag(Nets.INPUT, i, 0, 'e'));
            if (i < 45) {
                x.carry(i, i / 9 == 0 ? 8 : i / 9);
            }
        }
        Check.due("fifty", 50, x.bags());
        x.carry(0, 5);
        x.carry(49, 8);
        Check.due("the 51st, with room for it", STATE, () -> x.addBag(Nets.INPUT, 0, 0, 'e'));
        x.carry(40, 6);
        x.carry(49, 4);
        x.tick(1);
        Check.due("read, the last one", 49, x.readTag(49));
        Check.due("it is a rush one", true, x.rush(49));
    }

    /** "When it comes to a node, it needs as many ticks there as the length": on each kind, and each time. */
    private static void aBagNeedsAsManyTicksAsTheLengthWhenItComes() {
        Bagweave x = Nets.of("i19 b29 r39 s491 s592 s693 m79 e89 c99 q19", "");
        x.addBag(Nets.INPUT, KNOWN, 0, 'e');
        for (int node = 4; node <= 13; node++) {
            x.carry(0, node);
            Check.due("on node " + node, node == 13 ? 1 : node - 3, x.left(0));
            x.tick(1);
            Check.due("one done on node " + node, node == 13 ? 0 : node - 4, x.left(0));
        }
        x.carry(0, 12);
        x.tick(9);
        Check.due("all done", 0, x.left(0));
        x.tick(60);
        Check.due("not below 0", 0, x.left(0));
        x.carry(0, 4);
        x.carry(0, 12);
        Check.due("anew", 9, x.left(0));
        Bagweave y = Nets.of("b19 m99", "45");
        Nets.unread(y, KNOWN, 4);
        y.tick(1);
        Check.due("by a tick", 9, y.left(0));
    }

    /** "'o' the tag, as at first; 'w' the tag plus 1, modulo 100; 'm' nothing". */
    private static void aReaderReadsTheTagOrTheNextOneOrNothing() {
        for (int tag : new int[] {0, 1, 98, 99}) {
            Bagweave x = Nets.of("r19", "");
            Check.due("at first " + tag, tag, x.readTag(Nets.unread(x, tag, 4)));
            Check.due("at first", 'o', x.setReader(4, 'w'));
            Check.due("wrong " + tag, tag == 99 ? 0 : tag + 1, x.readTag(Nets.unread(x, tag, 4)));
            x.setReader(4, 'm');
            int missed = Nets.unread(x, tag, 4);
            Check.due("nothing of " + tag, ELEMENT, () -> x.readTag(missed));
            x.setReader(4, 'o');
            Check.due("right " + tag, tag, x.readTag(Nets.unread(x, tag, 4)));
        }
    }

    /** "A reader, as a bag comes to it": not before, not later; by a tick as by hand. */
    private static void aReaderReadsAsABagComes() {
        Bagweave x = Nets.of("b19 r29 m19", "45 56");
        Nets.unread(x, KNOWN, 4);
        Check.due("before", ELEMENT, () -> x.readTag(0));
        x.tick(1);
        Check.due("it has come", 5, x.nodeOf(0));
        Check.due("with all its ticks to do", 2, x.left(0));
        Check.due("it was read", KNOWN, x.readTag(0));
        x.setReader(5, 'm');
        int missed = Nets.unread(x, KNOWN, 5);
        x.setReader(5, 'o');
        x.tick(1);
        Check.due("not later", ELEMENT, () -> x.readTag(missed));
    }

    /** "that was not read": one that was missed is read by the next reader, one that was read wrong is not. */
    private static void aReaderReadsOnlyOneThatWasNotRead() {
        Bagweave x = Nets.of("r19 r19", "");
        x.setReader(4, 'w');
        int wrong = Nets.unread(x, 99, 4);
        x.carry(wrong, 5);
        Check.due("read wrong as 0", 0, x.readTag(wrong));
        int right = Nets.unread(x, 99, 5);
        x.carry(right, 4);
        Check.due("read right", 99, x.readTag(right));
        x.setReader(4, 'm');
        x.carry(right, 5);
        x.carry(right, 4);
        Check.due("still read", 99, x.readTag(right));
        int missed = Nets.unread(x, 5, 4);
        x.carry(missed, 5);
        Check.due("read by the next one", 5, x.readTag(missed));
    }

    private static void onlyAReaderReadsAsABagComes() {
        Bagweave x = Nets.of("i19 b19 s191 s193 m19 e19 c19 q19", "");
        x.addBag(Nets.INPUT, KNOWN, 0, 'e');
        for (int node = 4; node <= 11; node++) {
            x.carry(0, node);
            Check.due("not read as it comes to " + node, ELEMENT, () -> x.readTag(0));
            if (node != 8) {
                x.tick(2);
                Check.due("nor after its ticks on " + node, ELEMENT, () -> x.readTag(0));
            }
        }
    }

    /** "A bag that was not read and has done its ticks at a desk for coding was read then, right." */
    private static void aDeskForCodingReadsRightAfterTheTicks() {
        for (int tag : new int[] {0, 99}) {
            Bagweave x = Nets.of("m99 b19", "");
            x.setReader(Nets.READER, 'm');
            int bag = Nets.read(x, tag, 0, 4);
            x.tick(8);
            Check.due("a tick before", ELEMENT, () -> x.readTag(bag));
            x.tick(1);
            Check.due("right " + tag, tag, x.readTag(bag));
            int early = Nets.unread(x, tag, 4);
            x.tick(8);
            x.carry(early, 5);
            x.tick(1);
            Check.due("carried away a tick before", ELEMENT, () -> x.readTag(early));
        }
    }

    private static void aDeskForCodingReadsOnlyOneThatWasNotRead() {
        Bagweave x = Nets.of("m19", "");
        x.setReader(Nets.READER, 'w');
        int bag = Nets.read(x, 99, 0, 4);
        x.tick(2);
        Check.due("wrong as it was", 0, x.readTag(bag));
    }

    /** "is clear if its suspicion is less than k". */
    private static void aBagIsClearIfItsSuspicionIsLessThanTheLevel() {
        for (int level = 1; level <= 2; level++) {
            for (int suspicion = 0; suspicion <= 3; suspicion++) {
                Bagweave x = Nets.of("s19" + level, "");
                int bag = Nets.read(x, KNOWN, suspicion, 4);
                x.tick(1);
                String what = "suspicion " + suspicion + " at level " + level;
                Check.due("clear, " + what, suspicion < level, x.isClear(bag));
                Check.due("passed, " + what, suspicion < level ? 0 : level, x.level(bag));
            }
        }
    }

    /** "A bag that has done its ticks at a screening": not a tick before, and not if it was carried away. */
    private static void aBagIsScreenedAfterItsTicks() {
        Bagweave x = Nets.of("s991 b19", "");
        int good = Nets.read(x, KNOWN, 0, 4);
        int bad = Nets.read(x, KNOWN, 1, 4);
        int carried = Nets.read(x, KNOWN, 0, 4);
        x.tick(8);
        Check.due("not yet clear", false, x.isClear(good));
        Check.due("not yet passed", 0, x.level(bad));
        x.carry(carried, 5);
        x.tick(1);
        Check.due("clear", true, x.isClear(good));
        Check.due("passed", 1, x.level(bad));
        Check.due("carried away a tick before", false, x.isClear(carried));
        int unread = Nets.unread(x, KNOWN, 4);
        x.tick(9);
        Check.due("one that was not read, too", true, x.isClear(unread));
    }

    /** "for the level 3 only if it was found so by a verdict, for which it waits": whatever its suspicion. */
    private static void levelThreeClearsByAVerdictOnly() {
        for (int suspicion = 0; suspicion <= 3; suspicion++) {
            Bagweave x = Nets.of("s293", "");
            int bag = Nets.read(x, KNOWN, suspicion, 4);
            x.tick(1);
            Check.due("a tick to do, it does not wait", false, x.waitsForVerdict(bag));
            x.tick(1);
            Check.due("it waits", true, x.waitsForVerdict(bag));
            x.tick(60);
            Check.due("not clear by itself", false, x.isClear(bag));
            Check.due("it has passed none", 0, x.level(bag));
            Check.due("its node", 4, x.verdict(bag, true));
            Check.due("clear by the verdict", true, x.isClear(bag));
            Check.due("it waits no longer", false, x.waitsForVerdict(bag));
            Check.due("it is still there", 4, x.nodeOf(bag));
            Check.due("it has passed none by it", 0, x.level(bag));
        }
    }

    /** "a verdict can also be that it is taken out, then it is gone". */
    private static void aVerdictCanTakeOut() {
        Bagweave x = Nets.of("s123", "");
        for (int bag = 0; bag < 2; bag++) {
            Nets.read(x, KNOWN, bag, 4);
        }
        x.tick(1);
        Check.due("its node", 4, x.verdict(0, false));
        Check.due("gone", 'x', x.whereIs(0));
        Check.due("one is left", 1, x.onNode(4));
        Check.due("it is the first now", 1, x.bagOn(4, 0));
        Check.due("it is not clear", false, x.isClear(0));
        Check.due("it waits no longer", false, x.waitsForVerdict(0));
        Check.due("on no node", ELEMENT, () -> x.nodeOf(0));
        Check.due("there is room", Nets.INPUT, x.carry(x.addBag(Nets.INPUT, 1, 0, 'e'), 4));
        Check.due("not out of a unit", 0, x.takenOut());
        Check.due("it is no longer carried", SUPPORT, () -> x.carry(0, 4));
        Check.due("it is one of the bags", 3, x.bags());
    }

    /** "it has passed the level k, 1 or 2, whichever it had passed before". */
    private static void aBagHasPassedTheLevelWhicheverBefore() {
        Bagweave x = Nets.of("s193", "");
        int bag = Nets.read(x, KNOWN, 3, Nets.SECOND_SCREEN);
        x.tick(1);
        Check.due("2 before 1", 2, x.level(bag));
        x.carry(bag, Nets.FIRST_SCREEN);
        Check.due("as before until it has done its ticks", 2, x.level(bag));
        x.tick(1);
        Check.due("1 after 2", 1, x.level(bag));
        x.carry(bag, Nets.SECOND_SCREEN);
        x.tick(1);
        Check.due("2 after 1", 2, x.level(bag));
        x.carry(bag, 4);
        x.tick(3);
        Check.due("3 is none", 2, x.level(bag));
    }

    /** "if it is not clear already": it stays clear, and passes no level. */
    private static void aClearBagPassesNoLevel() {
        Bagweave x = Nets.of("s193", "");
        int bag = Nets.read(x, KNOWN, 1, Nets.SECOND_SCREEN);
        x.tick(1);
        Check.due("clear by level 2", true, x.isClear(bag));
        x.carry(bag, Nets.FIRST_SCREEN);
        x.tick(1);
        Check.due("still clear after level 1", true, x.isClear(bag));
        Check.due("it has not passed level 1", 0, x.level(bag));
        x.carry(bag, 4);
        x.tick(1);
        Check.due("still clear at level 3", true, x.isClear(bag));
        Check.due("it does not wait", false, x.waitsForVerdict(bag));
        int found = Nets.read(x, KNOWN, 3, 4);
        x.tick(1);
        x.verdict(found, true);
        x.carry(found, Nets.SECOND_SCREEN);
        x.tick(1);
        Check.due("one found clear stays so at level 2", true, x.isClear(found));
        Check.due("it has not passed level 2", 0, x.level(found));
    }

    // ---- Messages ----

    /** "A message tells the flight and the passenger of a tag; the last one for a tag counts." */
    private static void theLastMessageForATagCounts() {
        Bagweave x = net("b19", "");
        x.addFlight(600);
        x.board(1);
        int bag = Nets.read(x, KNOWN, 0, 4);
        Check.due("the flight", 0, x.flightOf(bag));
        Check.due("the passenger has not boarded", false, x.mayFly(bag, 0));
        Check.due("another one", true, x.message(KNOWN, 1, 1));
        Check.due("the flight of the last one", 1, x.flightOf(bag));
        Check.due("the passenger of the last one", true, x.mayFly(bag, 1));
        Check.due("the first one does not count", false, x.mayFly(bag, 0));
        Check.due("none for the tag beside it", false, x.message(KNOWN + 1, 0, 0));
        Check.due("none for the tag beside it", false, x.message(KNOWN - 1, 0, 0));
        Check.due("as before", 1, x.flightOf(bag));
    }

    /** "A bag that was read has the flight of the tag that was read, if there is a message for it". */
    private static void theFlightIsThatOfTheTagThatWasRead() {
        Bagweave x = net("b19", "");
        x.setReader(Nets.READER, 'w');
        int bag = Nets.read(x, 99, 0, 4);
        int known = Nets.read(x, KNOWN - 1, 0, 4);
        x.addFlight(600);
        x.message(99, 0, 0);
        Check.due("not that of its own tag", ELEMENT, () -> x.flightOf(bag));
        Check.due("no message, so to a desk", 'm', x.goal(bag));
        x.message(0, 1, 0);
        Check.due("the message came late", 1, x.flightOf(bag));
        Check.due("so it wants on", 's', x.goal(bag));
        Check.due("the message came early", 0, x.flightOf(known));
        int unread = Nets.unread(x, KNOWN, 4);
        Check.due("one that was not read has none", ELEMENT, () -> x.flightOf(unread));
    }

    /** "its passenger is that of its own tag": the message for the tag that was read tells nothing of it. */
    private static void thePassengerIsThatOfItsOwnTag() {
        Bagweave x = net("b19", "");
        x.setReader(Nets.READER, 'w');
        x.message(KNOWN, 0, 3);
        x.message(KNOWN + 1, 0, 4);
        int bag = Nets.read(x, KNOWN, 0, 4);
        Check.due("read wrong", KNOWN + 1, x.readTag(bag));
        x.board(4);
        Check.due("not the passenger of the tag that was read", false, x.mayFly(bag, 0));
        x.board(3);
        Check.due("the passenger of its own tag", true, x.mayFly(bag, 0));
    }
}
