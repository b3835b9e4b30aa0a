/** Small airports for tests, written as text, and ways to bring bags into them. */
final class Nets {
    static final int INPUT = 0;
    static final int READER = 1;
    static final int FIRST_SCREEN = 2;
    static final int SECOND_SCREEN = 3;
    /** The first node of a text; those before are led nowhere, so that bags can be made ready there and be carried. */
    static final int OWN = 4;
    private static final String FIGURES = "0123456789abcdefghij";

    private Nets() {
    }

    /**
     * The four nodes to make bags ready, and those of the text, each told by kind, length, room and, if it is a
     * screening, level: "b19 s191". The links name both nodes by one sign each: "45 5a".
     */
    static Bagweave of(String nodes, String links) {
        Bagweave x = bare("i19 r19 s191 s192 " + nodes);
        for (int i = 0; i + 1 < links.length(); i += 3) {
            x.link(FIGURES.indexOf(links.charAt(i)), FIGURES.indexOf(links.charAt(i + 1)));
        }
        return x;
    }

    /** Just the nodes of the text. */
    static Bagweave bare(String nodes) {
        Bagweave x = new Bagweave();
        for (String node : nodes.trim().split(" +")) {
            int level = node.length() > 3 ? node.charAt(3) - '0' : 0;
            x.addNode(node.charAt(0), node.charAt(1) - '0', node.charAt(2) - '0', level);
        }
        return x;
    }

    /** A bag that was not read. */
    static int unread(Bagweave x, int tag, int node) {
        int bag = x.addBag(INPUT, tag, 0, 'e');
        x.carry(bag, node);
        return bag;
    }

    /** A bag that was read, and is not clear. */
    static int read(Bagweave x, int tag, int suspicion, int node) {
        int bag = x.addBag(INPUT, tag, suspicion, 'e');
        x.carry(bag, READER);
        x.carry(bag, node);
        return bag;
    }

    /** A bag of the greatest suspicion that was read and has passed the levels up to one; it takes a tick for each. */
    static int passed(Bagweave x, int tag, int level, int node) {
        int bag = read(x, tag, 3, level == 0 ? node : FIRST_SCREEN);
        for (int k = 1; k <= level; k++) {
            x.tick(1);
            x.carry(bag, k < level ? SECOND_SCREEN : node);
        }
        return bag;
    }

    /** A bag that was read and is clear, left at the first screening; it takes a tick. */
    static int clear(Bagweave x, int tag, char sort) {
        int bag = x.addBag(INPUT, tag, 0, sort);
        x.carry(bag, READER);
        x.carry(bag, FIRST_SCREEN);
        x.tick(1);
        return bag;
    }

    /** For each bag its node, or the letter of its place. */
    static String places(Bagweave x) {
        StringBuilder text = new StringBuilder();
        for (int bag = 0; bag < x.bags(); bag++) {
            text.append(bag == 0 ? "" : " ");
            text.append(x.whereIs(bag) == 'n' ? "" + x.nodeOf(bag) : "" + x.whereIs(bag));
        }
        return text.toString();
    }
}
