/**
 * Tells all that an object lets one see or do, so that two objects can be held against each other. It spends the object,
 * so it comes in parts, each of them for an object of its own and of few enough calls.
 */
final class Probe {
    static final int PARTS = 7;

    private final Bagweave x;
    private final StringBuilder told = new StringBuilder();

    private Probe(Bagweave x) {
        this.x = x;
    }

    static String tell(Bagweave x, int part) {
        Probe probe = new Probe(x);
        switch (part) {
            case 0: probe.seeAll(); break;
            case 1: probe.seeBags(); break;
            case 2: probe.link(0, 11); break;
            case 3: probe.link(11, 20); break;
            case 4: probe.setAll(); break;
            case 5: probe.addAll(); break;
            default: probe.goOn();
        }
        return probe.told.toString();
    }

    private void tell(Check.Call call) {
        told.append(Check.answerOf(call)).append(' ');
    }

    private void seeAll() {
        tell(x::ticks);
        tell(x::bags);
        tell(x::takenOut);
        tell(x::rings);
        tell(x::moves);
        tell(x::flownShare);
        tell(x::meanOnNode);
        tell(x::isSound);
        for (int i = 0; i <= 10; i++) {
            int flight = i;
            tell(() -> x.loaded(flight));
            tell(() -> x.stateOf(flight));
            tell(() -> x.timeOf(flight));
        }
        for (int i = 0; i <= 20; i++) {
            int node = i;
            tell(() -> x.onNode(node));
            for (int j = 0; j <= 9; j++) {
                int index = j;
                tell(() -> x.bagOn(node, index));
            }
        }
    }

    /** The last bags are seen, and one beyond. */
    private void seeBags() {
        int count = x.bags();
        for (int i = Math.max(0, count - 10); i <= count; i++) {
            int bag = i;
            tell(() -> x.whereIs(bag));
            tell(() -> x.nodeOf(bag));
            tell(() -> x.left(bag));
            tell(() -> x.readTag(bag));
            tell(() -> x.flightOf(bag));
            tell(() -> x.isClear(bag));
            tell(() -> x.level(bag));
            tell(() -> x.goal(bag));
            tell(() -> x.next(bag));
            tell(() -> x.wayCost(bag));
            tell(() -> x.waitsForVerdict(bag));
            tell(() -> x.unitOf(bag));
            for (int j = 0; j < 4; j++) {
                int number = j;
                tell(() -> x.mayFly(bag, number));
                tell(() -> x.textOf(bag, number));
            }
        }
    }

    /** No node to itself, and none to the first one, an input: what is always refused tells nothing. */
    private void link(int least, int beyond) {
        for (int i = least; i < beyond; i++) {
            for (int j = 1; j < 20; j++) {
                int from = i;
                int to = j;
                if (from != to) {
                    tell(() -> x.link(from, to));
                }
            }
        }
    }

    /** What was set is told by what it is set to now. */
    private void setAll() {
        tell(() -> x.setEarly(0));
        for (int i = 0; i < 20; i++) {
            int node = i;
            tell(() -> x.setReader(node, 'o'));
            tell(() -> x.setFault(node, false));
        }
        for (int i = 0; i < 10; i++) {
            int flight = i;
            tell(() -> x.setTime(flight, 9000));
            tell(() -> x.assign(flight, 6, 7));
        }
        for (int i = 0; i < 40; i++) {
            int passenger = i;
            tell(() -> x.board(passenger));
            tell(() -> x.setOff(passenger, false));
            tell(() -> x.setGroup(passenger, 0));
        }
        for (int i = 0; i < 100; i++) {
            int tag = i;
            tell(() -> x.message(tag, 0, 0));
        }
        for (int i = 0; i < 50; i++) {
            int bag = i;
            tell(() -> x.rush(bag));
        }
    }

    private void addAll() {
        for (int i = 0; i <= 10; i++) {
            int flight = i;
            for (int j = 0; j <= 4; j++) {
                tell(() -> x.addUnit(flight, 't', 1));
            }
            tell(() -> x.cancel(flight));
        }
        for (int i = 0; i <= 20; i++) {
            int node = i;
            for (int j = 0; j < 9; j++) {
                tell(() -> x.addBag(node, 0, 0, 't'));
            }
            tell(() -> x.addNode('b', 1, 1, 0));
        }
        for (int i = 0; i <= 10; i++) {
            tell(() -> x.addFlight(9999));
        }
        for (int i = Math.max(0, x.bags() - 15); i < x.bags(); i++) {
            int bag = i;
            tell(() -> x.verdict(bag, true));
            tell(() -> x.carry(bag, 0));
        }
    }

    private void goOn() {
        int count = x.bags();
        for (int i = 0; i < 14; i++) {
            tell(() -> x.tick(1));
            for (int j = Math.max(0, count - 9); j < count; j++) {
                told.append(x.whereIs(j) == 'n' ? "" + x.nodeOf(j) : "" + x.whereIs(j)).append(' ');
            }
        }
        tell(x::moves);
        tell(x::rings);
        tell(x::takenOut);
        for (int i = 0; i < 10; i++) {
            int flight = i;
            tell(() -> x.stateOf(flight));
            tell(() -> x.timeOf(flight));
            tell(() -> x.loaded(flight));
        }
    }
}
