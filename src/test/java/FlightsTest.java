import java.util.NoSuchElementException;

/** The boundary cases of the parts 4 and 5 of a tick, units and flights, and of who may fly. */
public final class FlightsTest {
    private static final Class<NoSuchElementException> ELEMENT = NoSuchElementException.class;
    private static final Class<UnsupportedOperationException> SUPPORT = UnsupportedOperationException.class;
    private static final int KNOWN = 7;
    private static final int UNKNOWN = 9;
    private static final int PASSENGER = 3;
    private static final int CHUTE = 4;
    private static final int OTHER_CHUTE = 5;
    private static final int BELT = 6;
    private static final int LAST_SCREEN = 7;

    private FlightsTest() {
    }

    public static void main(String[] args) {
        itHasDoneItsTicks();
        itIsClear();
        itsFlightIsThatOfTheTagThatWasRead();
        itsFlightIsOpen();
        aUnitForItsClass();
        aUnitHasRoom();
        theFirstUnitWithRoom();
        theFirstBagThatCan();
        eachChuteOne();
        chutesByRisingNumbers();
        chutesAtFaultLetNoneGo();
        onlyChutesLetBagsGoIntoUnits();
        whateverWentInPartTwo();
        whateverWentInPartThree();
        whereverItWantsTo();
        aFlightLeavesWhenItsTimeHasCome();
        aFlightWithoutBagsLeaves();
        bagsOfTheSameTickFly();
        allBagsInItsUnitsFly();
        bagsThatMayNotFlyAreTakenOut();
        twoTicksLaterForEachOne();
        aClosedFlightLeavesAtItsLaterTime();
        aClosedFlightIsHeldAgain();
        aClosedFlightCanBeSetToAnotherTime();
        severalFlightsInATick();
        aTakenOutBagCanFlyLater();
        aCancelledFlightStays();
        aCancelledFlightGivesItsBagsBack();
        whoMayFly();
        noGroupIsZero();
        aGroupIsOneOfNine();
        theLastPassenger();
        ofTwoThatAreOff();
        thirtySixInTheUnits();
        eachBagIsInOnePlaceAtEachTick();
        Check.end();
    }

    /** Two chutes of length 1, a belt and a last screening; an open flight at 500 with a message and its passenger. */
    private static Bagweave airport() {
        Bagweave x = Nets.of("c19 c19 b19 s193", "");
        x.addFlight(500);
        x.message(KNOWN, 0, PASSENGER);
        x.board(PASSENGER);
        return x;
    }

    private static Bagweave withUnit(char sort, int room) {
        Bagweave x = airport();
        x.addUnit(0, sort, room);
        return x;
    }

    /** Bags that are clear and known, left at the first screening, all with the same tick. */
    private static void clear(Bagweave x, int count, char sort) {
        for (int i = 0; i < count; i++) {
            int bag = x.addBag(Nets.INPUT, KNOWN, 0, sort);
            x.carry(bag, Nets.READER);
            x.carry(bag, Nets.FIRST_SCREEN);
        }
        x.tick(1);
    }

    private static void load(Bagweave x, int bag) {
        x.carry(bag, CHUTE);
        x.tick(1);
    }

    // ---- part 4 ----

    /** "it has done its ticks": in the tick in which it has, not before. */
    private static void itHasDoneItsTicks() {
        for (int length = 1; length <= 9; length++) {
            Bagweave x = Nets.of("c" + length + "9", "");
            x.addFlight(500);
            x.addUnit(0, 'e', 1);
            x.message(KNOWN, 0, PASSENGER);
            clear(x, 1, 'e');
            x.carry(0, CHUTE);
            if (length > 1) {
                x.tick(length - 1);
            }
            Check.due("a tick before, of " + length, 'n', x.whereIs(0));
            x.tick(1);
            Check.due("at its tick, of " + length, 'u', x.whereIs(0));
        }
    }

    /** "it is clear": by a screening or a verdict. */
    private static void itIsClear() {
        Bagweave x = withUnit('e', 9);
        Nets.read(x, KNOWN, 0, CHUTE);
        x.tick(5);
        Check.due("not clear", 'n', x.whereIs(0));
        x.carry(0, LAST_SCREEN);
        x.tick(1);
        x.carry(0, CHUTE);
        x.tick(5);
        Check.due("without a verdict", 'n', x.whereIs(0));
        x.carry(0, LAST_SCREEN);
        x.tick(1);
        x.verdict(0, true);
        load(x, 0);
        Check.due("by a verdict", 'u', x.whereIs(0));
    }

    /** Its flight is that of the tag that was read; so a bag that was not read, or has no message, has none. */
    private static void itsFlightIsThatOfTheTagThatWasRead() {
        Bagweave x = withUnit('e', 9);
        x.addFlight(600);
        x.addUnit(1, 'e', 9);
        Nets.unread(x, KNOWN, Nets.FIRST_SCREEN);
        x.tick(1);
        Check.due("clear", true, x.isClear(0));
        x.carry(0, CHUTE);
        x.tick(3);
        Check.due("not read", 'n', x.whereIs(0));
        x.setReader(Nets.READER, 'w');
        x.carry(0, Nets.READER);
        x.carry(0, CHUTE);
        x.tick(3);
        Check.due("no message for the tag that was read", 'n', x.whereIs(0));
        x.message(KNOWN + 1, 1, PASSENGER);
        x.tick(1);
        Check.due("into that flight", 10, x.unitOf(0));
    }

    /** "its flight is open": not closed, left or cancelled. */
    private static void itsFlightIsOpen() {
        for (char state : "oldc".toCharArray()) {
            Bagweave x = withUnit('e', 9);
            clear(x, 2, 'e');
            if (state == 'l') {
                x.setOff(PASSENGER, true);
                load(x, 1);
                x.setTime(0, x.ticks() + 1);
                x.tick(1);
            } else if (state == 'd') {
                x.setTime(0, x.ticks() + 1);
                x.tick(1);
            } else if (state == 'c') {
                x.cancel(0);
            }
            Check.due("state", state, x.stateOf(0));
            load(x, 0);
            Check.due("loaded, state " + state, state == 'o' ? 'u' : 'n', x.whereIs(0));
        }
    }

    /** "a unit of the flight for its class". */
    private static void aUnitForItsClass() {
        String sorts = "fet";
        for (char sort : sorts.toCharArray()) {
            Bagweave x = airport();
            x.addFlight(600);
            x.addUnit(1, sort, 9);
            for (char other : sorts.toCharArray()) {
                if (other != sort) {
                    x.addUnit(0, other, 9);
                }
            }
            clear(x, 1, sort);
            load(x, 0);
            Check.due("none for the class " + sort, 'n', x.whereIs(0));
            Check.due("so a third one", 2, x.addUnit(0, sort, 1));
            x.tick(1);
            Check.due("one for the class " + sort, 2, x.unitOf(0));
        }
    }

    /** "has room": full, and with a place left. */
    private static void aUnitHasRoom() {
        for (int room = 1; room <= 9; room++) {
            Bagweave x = withUnit('e', room);
            clear(x, room, 'e');
            for (int bag = 0; bag < room; bag++) {
                Check.due("in the unit, of " + room, bag, x.loaded(0));
                load(x, bag);
            }
            Check.due("the last place, of " + room, 0, x.unitOf(room - 1));
            clear(x, 1, 'e');
            load(x, room);
            x.tick(5);
            Check.due("full, of " + room, CHUTE, x.nodeOf(room));
            Check.due("all of " + room, room, x.loaded(0));
            Check.due("sound when full, of " + room, true, x.isSound());
        }
    }

    /** "the first one of these": by their numbers, with room, for the class. */
    private static void theFirstUnitWithRoom() {
        Bagweave x = airport();
        x.addUnit(0, 't', 9);
        x.addUnit(0, 'e', 1);
        x.addUnit(0, 'e', 2);
        x.addUnit(0, 'e', 1);
        clear(x, 5, 'e');
        int[] due = {1, 2, 2, 3};
        for (int bag = 0; bag < 4; bag++) {
            load(x, bag);
            Check.due("bag " + bag, due[bag], x.unitOf(bag));
        }
        load(x, 4);
        Check.due("all full", ELEMENT, () -> x.unitOf(4));
        Check.due("four", 4, x.loaded(0));
    }

    /** "each let the first bag go into a unit that can": those before it that cannot stay in their order. */
    private static void theFirstBagThatCan() {
        Bagweave x = withUnit('e', 9);
        Nets.unread(x, KNOWN, CHUTE);
        Nets.read(x, UNKNOWN, 0, CHUTE);
        Nets.read(x, KNOWN, 0, CHUTE);
        clear(x, 2, 'e');
        x.carry(3, CHUTE);
        x.carry(4, CHUTE);
        x.tick(1);
        Check.due("the fourth", "4 4 4 u 4", Nets.places(x));
        Check.due("the row", 4, x.bagOn(CHUTE, 3));
        x.tick(1);
        Check.due("the fifth", "4 4 4 u u", Nets.places(x));
    }

    /** "Chutes [...] each let the first bag go": one of each chute in a tick. */
    private static void eachChuteOne() {
        Bagweave x = withUnit('e', 9);
        clear(x, 4, 'e');
        for (int bag = 0; bag < 4; bag++) {
            x.carry(bag, bag < 2 ? CHUTE : OTHER_CHUTE);
        }
        x.tick(1);
        Check.due("the first of each", "u 4 u 5", Nets.places(x));
        x.tick(1);
        Check.due("then the others", "u u u u", Nets.places(x));
    }

    /** "Chutes, by rising numbers": the last place is for the lower one. */
    private static void chutesByRisingNumbers() {
        for (int lower = 0; lower <= 1; lower++) {
            Bagweave x = withUnit('e', 1);
            clear(x, 2, 'e');
            x.carry(1 - lower, OTHER_CHUTE);
            x.carry(lower, CHUTE);
            x.tick(1);
            Check.due("from the lower chute", 'u', x.whereIs(lower));
            Check.due("not from the other one", 'n', x.whereIs(1 - lower));
        }
    }

    private static void chutesAtFaultLetNoneGo() {
        Bagweave x = withUnit('e', 1);
        clear(x, 2, 'e');
        x.carry(0, CHUTE);
        x.setFault(CHUTE, true);
        x.carry(1, OTHER_CHUTE);
        x.tick(1);
        Check.due("only from the other one", "4 u", Nets.places(x));
        Bagweave done = airport();
        clear(done, 1, 'e');
        load(done, 0);
        done.setFault(CHUTE, true);
        done.addUnit(0, 'e', 1);
        done.tick(3);
        Check.due("though it has done its ticks", 'n', done.whereIs(0));
        done.setFault(CHUTE, false);
        done.tick(1);
        Check.due("without the fault", 'u', done.whereIs(0));
    }

    private static void onlyChutesLetBagsGoIntoUnits() {
        Bagweave x = Nets.of("i19 b19 r19 s191 m19 e19 q19", "");
        x.addFlight(500);
        x.addUnit(0, 'e', 9);
        x.message(KNOWN, 0, PASSENGER);
        clear(x, 7, 'e');
        for (int bag = 0; bag < 7; bag++) {
            x.carry(bag, 4 + bag);
        }
        x.tick(5);
        Check.due("none", "4 5 6 7 8 9 10", Nets.places(x));
    }

    /** "whatever went in the parts 2 and 3": the chute let one go and took one, and still lets one into a unit. */
    private static void whateverWentInPartTwo() {
        Bagweave x = Nets.of("b19 c12 m19", "45 56");
        x.addFlight(500);
        x.addUnit(0, 'e', 9);
        x.message(KNOWN, 0, PASSENGER);
        x.setEarly(999);
        x.assign(0, 5, -1);
        clear(x, 2, 'e');
        Nets.unread(x, UNKNOWN, 5);
        x.carry(0, 5);
        x.carry(1, 4);
        x.tick(1);
        Check.due("one left, one came, one is in a unit", "u 5 6", Nets.places(x));
        Check.due("no ring", 0, x.rings());
    }

    private static void whateverWentInPartThree() {
        Bagweave x = Nets.of("b11 c12 m19", "45 54 46");
        x.addFlight(500);
        x.addUnit(0, 'e', 9);
        x.message(KNOWN, 0, PASSENGER);
        x.setEarly(999);
        x.assign(0, 5, -1);
        clear(x, 2, 'e');
        Nets.unread(x, UNKNOWN, 5);
        x.carry(0, 5);
        x.carry(1, 4);
        x.tick(1);
        Check.due("one left, one came, one is in a unit", "u 5 4", Nets.places(x));
        Check.due("a ring", 1, x.rings());
    }

    /** "and wherever it wants to": to a store, or to another chute; but if it can go there, it goes first. */
    private static void whereverItWantsTo() {
        Bagweave early = withUnit('e', 9);
        early.assign(0, CHUTE, -1);
        clear(early, 1, 'e');
        early.carry(0, CHUTE);
        Check.due("early", 'e', early.goal(0));
        early.tick(1);
        Check.due("in a unit", 'u', early.whereIs(0));
        Bagweave other = withUnit('e', 9);
        other.setEarly(999);
        other.assign(0, OTHER_CHUTE, -1);
        clear(other, 2, 'e');
        load(other, 0);
        Check.due("at another chute", 'u', other.whereIs(0));
        other.link(CHUTE, OTHER_CHUTE);
        other.carry(1, CHUTE);
        Check.due("it wants on", OTHER_CHUTE, other.next(1));
        other.tick(1);
        Check.due("so it goes on", OTHER_CHUTE, other.nodeOf(1));
    }

    // ---- part 5 ----

    /** "whose time has come": in that tick, not before; the least time there is. */
    private static void aFlightLeavesWhenItsTimeHasCome() {
        for (int time = 1; time <= 3; time++) {
            Bagweave x = new Bagweave();
            x.addFlight(time);
            if (time > 1) {
                x.tick(time - 1);
            }
            Check.due("a tick before " + time, 'o', x.stateOf(0));
            x.tick(1);
            Check.due("at " + time, 'd', x.stateOf(0));
            Check.due("its time", time, x.timeOf(0));
        }
    }

    /** "if there are any, [...] otherwise it has left": without units, with an empty one. */
    private static void aFlightWithoutBagsLeaves() {
        Bagweave x = withUnit('e', 9);
        x.addFlight(500);
        clear(x, 1, 'e');
        x.carry(0, BELT);
        x.setOff(PASSENGER, true);
        x.setTime(0, 2);
        x.setTime(1, 2);
        x.tick(1);
        Check.due("with an empty unit, and a bag elsewhere that may not fly", 'd', x.stateOf(0));
        Check.due("without a unit", 'd', x.stateOf(1));
        Check.due("none was taken out", 0, x.takenOut());
    }

    /** The part 4 comes before the part 5. */
    private static void bagsOfTheSameTickFly() {
        Bagweave x = withUnit('e', 9);
        clear(x, 1, 'e');
        x.carry(0, CHUTE);
        x.setTime(0, x.ticks() + 1);
        x.tick(1);
        Check.due("loaded and flown", 'f', x.whereIs(0));
        Bagweave late = withUnit('e', 9);
        late.setTime(0, 2);
        clear(late, 1, 'e');
        late.tick(1);
        Check.due("has left", 'd', late.stateOf(0));
        late.carry(0, CHUTE);
        late.tick(1);
        Check.due("a tick too late", 'n', late.whereIs(0));
    }

    /** "otherwise it has left, and all bags in its units with it". */
    private static void allBagsInItsUnitsFly() {
        Bagweave x = withUnit('e', 2);
        x.addUnit(0, 'f', 1);
        clear(x, 2, 'e');
        clear(x, 1, 'f');
        for (int bag = 0; bag < 3; bag++) {
            load(x, bag);
        }
        x.setTime(0, x.ticks() + 1);
        x.tick(1);
        Check.due("all flown", "f f f", Nets.places(x));
        Check.due("still told as loaded", 3, x.loaded(0));
        Check.due("in no unit", ELEMENT, () -> x.unitOf(0));
        Check.due("none was taken out", 0, x.takenOut());
        Check.due("the share", 1.0f, x.flownShare());
        x.setOff(PASSENGER, true);
        x.tick(10);
        Check.due("once flown", "f f f", Nets.places(x));
        Check.due("it was allowed to when it left", true, x.isSound());
    }

    /** "those bags in their units that may not fly are taken out, and come to the side": the others stay. */
    private static void bagsThatMayNotFlyAreTakenOut() {
        Bagweave x = withUnit('e', 9);
        x.message(UNKNOWN, 0, PASSENGER + 1);
        clear(x, 1, 'e');
        x.carry(x.addBag(Nets.INPUT, UNKNOWN, 0, 'e'), Nets.READER);
        x.carry(1, Nets.FIRST_SCREEN);
        x.tick(1);
        load(x, 0);
        load(x, 1);
        x.setTime(0, x.ticks() + 2);
        x.tick(1);
        Check.due("a tick before", "u u", Nets.places(x));
        x.tick(1);
        Check.due("one at the side", "u s", Nets.places(x));
        Check.due("closed", 'l', x.stateOf(0));
        Check.due("one in the units", 1, x.loaded(0));
        Check.due("one was taken out", 1, x.takenOut());
        Check.due("the one that stays, in its unit", 0, x.unitOf(0));
        Check.due("no unit any more", SUPPORT, () -> x.addUnit(0, 'e', 1));
    }

    /** "and its time is 2 ticks later for each one". */
    private static void twoTicksLaterForEachOne() {
        for (int count = 1; count <= 9; count++) {
            Bagweave x = withUnit('e', 9);
            clear(x, count, 'e');
            for (int bag = 0; bag < count; bag++) {
                load(x, bag);
            }
            x.setOff(PASSENGER, true);
            x.setTime(0, 20);
            x.tick(20 - x.ticks());
            Check.due("time, for " + count, 20 + 2 * count, x.timeOf(0));
            Check.due("closed, for " + count, 'l', x.stateOf(0));
            Check.due("taken out, for " + count, count, x.takenOut());
            Check.due("none is left, of " + count, 0, x.loaded(0));
        }
    }

    private static Bagweave closedAt20() {
        Bagweave x = withUnit('e', 9);
        clear(x, 2, 'e');
        load(x, 0);
        load(x, 1);
        x.setOff(PASSENGER, true);
        x.rush(1);
        x.setTime(0, 20);
        x.tick(20 - x.ticks());
        return x;
    }

    /** "Flights [...] that are open or closed, and whose time has come". */
    private static void aClosedFlightLeavesAtItsLaterTime() {
        Bagweave x = closedAt20();
        Check.due("one is out", "s u", Nets.places(x));
        x.tick(1);
        Check.due("not before its later time", 'l', x.stateOf(0));
        x.tick(1);
        Check.due("at its later time", 'd', x.stateOf(0));
        Check.due("with the other one", "s f", Nets.places(x));
        Check.due("its time", 22, x.timeOf(0));
    }

    private static void aClosedFlightIsHeldAgain() {
        Bagweave x = withUnit('e', 9);
        x.message(UNKNOWN, 0, PASSENGER + 1);
        x.board(PASSENGER + 1);
        clear(x, 1, 'e');
        Nets.clear(x, UNKNOWN, 'e');
        load(x, 0);
        load(x, 1);
        x.setTime(0, 20);
        x.setOff(PASSENGER, true);
        x.tick(20 - x.ticks());
        Check.due("one is out", "s u", Nets.places(x));
        x.setOff(PASSENGER + 1, true);
        x.tick(2);
        Check.due("the other one, too", "s s", Nets.places(x));
        Check.due("still closed", 'l', x.stateOf(0));
        Check.due("2 ticks later again", 24, x.timeOf(0));
        Check.due("two were taken out", 2, x.takenOut());
        x.tick(1);
        Check.due("a tick before", 'l', x.stateOf(0));
        x.tick(1);
        Check.due("it leaves without both", 'd', x.stateOf(0));
        Check.due("none", 0, x.loaded(0));
    }

    private static void aClosedFlightCanBeSetToAnotherTime() {
        Bagweave x = closedAt20();
        Check.due("the time before", 22, x.setTime(0, 21));
        x.tick(1);
        Check.due("it leaves then", 'd', x.stateOf(0));
        Bagweave later = closedAt20();
        later.setTime(0, 30);
        later.tick(9);
        Check.due("closed until then", 'l', later.stateOf(0));
        later.tick(1);
        Check.due("it leaves later", 'd', later.stateOf(0));
    }

    /** "Flights, by rising numbers": each of those whose time has come, and each for itself. */
    private static void severalFlightsInATick() {
        Bagweave x = withUnit('e', 9);
        for (int flight = 1; flight <= 9; flight++) {
            x.addFlight(flight == 5 ? 6 : 5);
        }
        clear(x, 1, 'e');
        load(x, 0);
        x.setOff(PASSENGER, true);
        x.setTime(0, 5);
        x.cancel(3);
        x.tick(5 - x.ticks());
        StringBuilder states = new StringBuilder();
        for (int flight = 0; flight <= 9; flight++) {
            states.append(x.stateOf(flight));
        }
        Check.due("states", "lddcdodddd", states.toString());
    }

    private static void aTakenOutBagCanFlyLater() {
        Bagweave x = closedAt20();
        x.addFlight(40);
        x.addUnit(1, 'e', 1);
        x.message(KNOWN, 1, PASSENGER);
        x.setOff(PASSENGER, false);
        Check.due("from the side", -1, x.carry(0, CHUTE));
        Check.due("still clear", true, x.isClear(0));
        x.tick(1);
        Check.due("in another unit", 10, x.unitOf(0));
        x.tick(19);
        Check.due("flown", 'f', x.whereIs(0));
        Check.due("the first flight took the other one", 1, x.loaded(0));
    }

    private static void aCancelledFlightStays() {
        Bagweave x = withUnit('e', 9);
        Check.due("without bags", 0, x.cancel(0));
        while (x.ticks() < 500) {
            x.tick(50);
        }
        Check.due("cancelled at its time", 'c', x.stateOf(0));
        Check.due("its time", 500, x.timeOf(0));
    }

    /** "Cancels a flight; bags in its units come to the side": those that may fly, too, and of no other flight. */
    private static void aCancelledFlightGivesItsBagsBack() {
        Bagweave x = withUnit('e', 1);
        x.addUnit(0, 'e', 2);
        x.addFlight(600);
        x.addUnit(1, 'e', 1);
        clear(x, 4, 'e');
        for (int bag = 0; bag < 3; bag++) {
            load(x, bag);
        }
        x.message(KNOWN, 1, PASSENGER);
        load(x, 3);
        Check.due("in two flights", "u u u u", Nets.places(x));
        Check.due("how many", 3, x.cancel(0));
        Check.due("at the side", "s s s u", Nets.places(x));
        Check.due("none in its units", 0, x.loaded(0));
        Check.due("one in the other one's", 1, x.loaded(1));
        Check.due("taken out", 3, x.takenOut());
        Check.due("in no unit", ELEMENT, () -> x.unitOf(0));
    }

    // ---- who may fly ----

    /** All that counts for one bag, each way: it may if it is a rush one, or all the rest holds. */
    private static void whoMayFly() {
        for (int bits = 0; bits < 64; bits++) {
            boolean isRush = (bits & 1) > 0;
            boolean isForOther = (bits & 2) > 0;
            boolean hasBoarded = (bits & 4) > 0;
            boolean isOff = (bits & 8) > 0;
            boolean isOtherOff = (bits & 16) > 0;
            boolean isOneGroup = (bits & 32) > 0;
            Bagweave x = Nets.of("b19", "");
            x.addFlight(9);
            x.addFlight(9);
            x.addBag(Nets.INPUT, KNOWN, 0, 'e');
            x.message(KNOWN, isForOther ? 1 : 0, PASSENGER);
            if (isRush) {
                x.rush(0);
            }
            if (hasBoarded) {
                x.board(PASSENGER);
            }
            x.setOff(PASSENGER, isOff);
            x.setOff(20, isOtherOff);
            x.setGroup(PASSENGER, 4);
            x.setGroup(20, isOneGroup ? 4 : 5);
            boolean isFree = hasBoarded && !isOff && !(isOtherOff && isOneGroup);
            Check.due("with the flight, " + bits, isRush || !isForOther && isFree, x.mayFly(0, 0));
            Check.due("with the other one, " + bits, isRush || isForOther && isFree, x.mayFly(0, 1));
        }
        Bagweave none = Nets.of("b19", "");
        none.addFlight(9);
        none.addBag(Nets.INPUT, KNOWN, 0, 'e');
        none.board(0);
        Check.due("without a message", false, none.mayFly(0, 0));
        none.rush(0);
        Check.due("without a message, a rush one", true, none.mayFly(0, 0));
        none.cancel(0);
        Check.due("a rush one, of a cancelled flight", true, none.mayFly(0, 0));
    }

    /** "no one of the same group, other than 0, is off": at first, all are of the group 0. */
    private static void noGroupIsZero() {
        Bagweave x = withUnit('e', 1);
        x.addBag(Nets.INPUT, KNOWN, 0, 'e');
        for (int passenger = 0; passenger < 40; passenger++) {
            x.setOff(passenger, passenger != PASSENGER);
        }
        Check.due("all others are off", true, x.mayFly(0, 0));
        x.setGroup(PASSENGER, 1);
        Check.due("alone in a group", true, x.mayFly(0, 0));
        x.setGroup(0, 1);
        Check.due("one of the group is off", false, x.mayFly(0, 0));
        x.setGroup(PASSENGER, 0);
        Check.due("no group any more", true, x.mayFly(0, 0));
    }

    private static void aGroupIsOneOfNine() {
        for (int group = 1; group <= 9; group++) {
            Bagweave x = withUnit('e', 1);
            x.addBag(Nets.INPUT, KNOWN, 0, 'e');
            for (int other = 1; other <= 9; other++) {
                x.setGroup(10 + other, other);
                x.setOff(10 + other, other != group);
            }
            x.setGroup(PASSENGER, group);
            Check.due("all other groups are off, not " + group, true, x.mayFly(0, 0));
            x.setOff(10 + group, true);
            Check.due("the group " + group, false, x.mayFly(0, 0));
        }
    }

    /** The first and the last passenger are as good as the others. */
    private static void theLastPassenger() {
        for (int passenger : new int[] {0, 39}) {
            Bagweave x = withUnit('e', 1);
            x.addBag(Nets.INPUT, KNOWN, 0, 'e');
            x.message(KNOWN, 0, passenger);
            Check.due("not boarded, " + passenger, false, x.mayFly(0, 0));
            x.board(passenger);
            Check.due("boarded, " + passenger, true, x.mayFly(0, 0));
            x.setGroup(passenger, 9);
            x.setGroup(39 - passenger, 9);
            x.setOff(39 - passenger, true);
            Check.due("the other one is off", false, x.mayFly(0, 0));
            x.setOff(39 - passenger, false);
            x.setOff(passenger, true);
            Check.due("off, " + passenger, false, x.mayFly(0, 0));
        }
    }

    private static void ofTwoThatAreOff() {
        Bagweave x = withUnit('e', 1);
        x.addBag(Nets.INPUT, KNOWN, 0, 'e');
        for (int passenger : new int[] {PASSENGER, 10, 11}) {
            x.setGroup(passenger, 2);
            x.setOff(passenger, passenger > PASSENGER);
        }
        x.setOff(10, false);
        Check.due("one is still off", false, x.mayFly(0, 0));
        x.setOff(11, false);
        Check.due("none is off", true, x.mayFly(0, 0));
    }

    /** As many bags as the units of a flight can take. */
    private static void thirtySixInTheUnits() {
        Bagweave x = airport();
        for (int unit = 0; unit < 4; unit++) {
            Check.due("unit", unit, x.addUnit(0, 'e', 9));
        }
        for (int round = 0; round < 9; round++) {
            clear(x, 4, 'e');
            for (int bag = 4 * round; bag < 4 * round + 4; bag++) {
                load(x, bag);
            }
        }
        Check.due("all", 36, x.loaded(0));
        Check.due("the last one", 3, x.unitOf(35));
        x.setOff(PASSENGER, true);
        x.setTime(0, 100);
        x.tick(100 - x.ticks());
        Check.due("all taken out", 36, x.takenOut());
        Check.due("72 ticks later", 172, x.timeOf(0));
        Check.due("sound", true, x.isSound());
    }

    /** "Each bag is in one place at each tick": on the way from a belt to a chute, a unit, the side and the air. */
    private static void eachBagIsInOnePlaceAtEachTick() {
        Bagweave x = Nets.of("b12 c12 m11", "45 46");
        x.addFlight(12);
        x.addUnit(0, 'e', 3);
        x.message(KNOWN, 0, PASSENGER);
        x.assign(0, 5, -1);
        clear(x, 3, 'e');
        x.rush(2);
        for (int bag = 0; bag < 3; bag++) {
            x.carry(bag, 4 + bag / 2);
        }
        Nets.unread(x, UNKNOWN, Nets.READER);
        String[] due = {"5 4 u 1", "u 5 u 1", "u u u 1"};
        for (int tick = 2; tick <= 16; tick++) {
            x.tick(1);
            Check.due("how many places at " + tick, x.bags(), placesOf(x));
            String places = tick < 5 ? due[tick - 2] : tick < 12 ? due[2] : tick < 16 ? "s s u 1" : "s s f 1";
            Check.due("the places at " + tick, places, Nets.places(x));
        }
    }

    /** How many bags there are on all nodes, in the units of the flight or flown with it, and at the side. */
    private static int placesOf(Bagweave x) {
        int places = x.loaded(0);
        for (int node = 0; node <= 6; node++) {
            places += x.onNode(node);
        }
        for (int bag = 0; bag < x.bags(); bag++) {
            places += x.whereIs(bag) == 's' ? 1 : 0;
        }
        return places;
    }
}
