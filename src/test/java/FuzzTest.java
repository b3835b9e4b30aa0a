import java.util.ArrayList;
import java.util.List;
import java.util.Random;

/** Holds Bagweave against Model, answer by answer, over many runs of at most 512 calls; always the same runs. */
public final class FuzzTest {
    private static final int RUNS = 6000;
    private static final int CALLS = 512;
    private static final String KINDS = "ibrsmecq";

    private final Random random;
    private final int run;
    private final Bagweave real = new Bagweave();
    private final Model model = new Model();
    private final List<String> told = new ArrayList<>();
    private final boolean isTight;
    private boolean isBroken = false;

    private FuzzTest(int run) {
        this.run = run;
        this.random = new Random(run * 7919L + 13);
        this.isTight = random.nextInt(3) > 0;
    }

    public static void main(String[] args) {
        int flown = 0;
        int rings = 0;
        int out = 0;
        int held = 0;
        for (int i = 0; i < RUNS; i++) {
            FuzzTest test = new FuzzTest(i);
            test.go();
            flown += test.model.bags.isEmpty() ? 0 : Math.round(test.model.flownShare() * test.model.bags());
            rings += test.model.ringed;
            out += test.model.out;
            for (char place : test.model.where) {
                held += place == 'x' ? 1 : 0;
            }
            if (test.isBroken) {
                System.out.println(String.join("\n", test.told));
                break;
            }
        }
        System.out.println("flown " + flown + ", rings " + rings + ", taken out " + out + ", by verdicts " + held);
        Check.due("the runs reach bags that fly", true, flown > 1000);
        Check.due("the runs reach rings", true, rings > 1000);
        Check.due("the runs reach bags that are taken out", true, out > 500);
        Check.due("the runs reach verdicts", true, held > 100);
        Check.end();
    }

    private void both(String call, Check.Call want, Check.Call got) {
        if (isBroken || told.size() >= CALLS) {
            return;
        }
        Object due = Check.answerOf(want);
        Object answer = Check.answerOf(got);
        told.add(call + " = " + answer);
        Check.due("run " + run + ", call " + told.size() + ", " + call, due, answer);
        isBroken = !due.equals(answer);
    }

    private int upTo(int most) {
        return random.nextInt(most + 1);
    }

    private boolean rarely() {
        return random.nextInt(25) == 0;
    }

    private char oneOf(String letters) {
        return letters.charAt(random.nextInt(letters.length()));
    }

    private void go() {
        if (random.nextInt(6) == 0) {
            for (int n = upTo(11); n >= 0; n--) {
                addNode(rarely() ? 'x' : oneOf(KINDS));
            }
            for (int i = 0; i < 30; i++) {
                link(upTo(12) - 1, upTo(12));
            }
        } else if (random.nextBoolean()) {
            buildLoop();
        } else {
            buildLine();
        }
        prepareFlights();
        while (told.size() < CALLS && !isBroken) {
            if (random.nextInt(100) < 45) {
                change();
            } else {
                ask();
            }
        }
    }

    /** A line from an input to chutes: nets in which most bags come to fly. */
    private void buildLine() {
        String kinds = "irs1s2s3bccmeqb";
        for (int i = 0; i < kinds.length(); i++) {
            char kind = kinds.charAt(i);
            i += kind == 's' ? 1 : 0;
            addNode(kind, kind == 's' ? kinds.charAt(i) - '0' : 9);
        }
        String links = "AB BC CD DE CF DF EF FG FH FJ FK JL LG LH LK BI BL IL LC GL";
        for (int i = 0; i < links.length(); i += 3) {
            link(links.charAt(i) - 'A', links.charAt(i + 1) - 'A');
        }
    }

    /** A loop of belts, with all else beside it: nets in which rings come to stand. */
    private void buildLoop() {
        int belts = 2 + upTo(3);
        for (int n = 0; n < belts; n++) {
            addNode(random.nextInt(4) == 0 ? 'r' : 'b');
        }
        for (int n = 0; n < belts; n++) {
            link(n, (n + 1) % belts);
        }
        String others = "ims1s2s3ccqer";
        for (int i = 0; i < others.length(); i++) {
            char kind = others.charAt(i);
            int level = 1;
            if (kind == 's') {
                i++;
                level = others.charAt(i) - '0';
            }
            if (rarely()) {
                continue;
            }
            int node = model.kind.size();
            addNode(kind, level);
            link(upTo(belts - 1), node);
            if (random.nextInt(5) > 0) {
                link(node, upTo(belts - 1));
            }
        }
        for (int i = upTo(6); i > 0; i--) {
            link(upTo(model.kind.size() - 1), upTo(model.kind.size() - 1));
        }
    }

    private void addNode(char kind) {
        addNode(kind, rarely() ? upTo(5) - 1 : 1 + upTo(2));
    }

    private void addNode(char kind, int level) {
        int length = rarely() ? upTo(11) - 1 : 1 + upTo(isTight ? 1 : 3);
        int room = rarely() ? upTo(11) - 1 : 1 + upTo(isTight ? 1 : 4);
        both("addNode(" + kind + ", " + length + ", " + room + ", " + level + ")",
                () -> model.addNode(kind, length, room, level), () -> real.addNode(kind, length, room, level));
    }

    private void link(int from, int to) {
        both("link(" + from + ", " + to + ")", () -> model.link(from, to), () -> real.link(from, to));
    }

    private void prepareFlights() {
        for (int i = 1 + upTo(3); i > 0; i--) {
            addFlight();
        }
        for (int i = 0; i < 6; i++) {
            assign();
            addUnit();
            addUnit();
        }
        for (int i = 0; i < 16; i++) {
            message();
        }
        for (int i = 0; i < 16; i++) {
            board();
        }
    }

    private int someTag() {
        return rarely() ? upTo(103) - 2 : rarely() ? 99 : upTo(9);
    }

    private int somePassenger() {
        return rarely() ? upTo(43) - 2 : upTo(9);
    }

    private int someNode() {
        return rarely() ? upTo(23) - 2 : upTo(Math.max(0, model.kind.size() - 1));
    }

    private int someNode(char kind) {
        for (int i = 0; i < 20; i++) {
            int node = someNode();
            if (node >= 0 && node < model.kind.size() && model.kind.get(node) == kind) {
                return node;
            }
        }
        return someNode();
    }

    private int someFlight() {
        return rarely() ? upTo(12) - 1 : upTo(Math.max(0, model.times.size() - 1));
    }

    private int someBag() {
        return rarely() ? upTo(53) - 2 : upTo(Math.max(0, model.bags.size() - 1));
    }

    private int someTime() {
        return rarely() ? upTo(2) * 5000 - 1 : model.now + upTo(random.nextInt(4) > 0 ? 90 : 15);
    }

    private void addFlight() {
        int time = someTime();
        both("addFlight(" + time + ")", () -> model.addFlight(time), () -> real.addFlight(time));
    }

    private void assign() {
        int flight = someFlight();
        int chute = someNode('c');
        int overflow = random.nextBoolean() ? -1 : someNode('c');
        both("assign(" + flight + ", " + chute + ", " + overflow + ")",
                () -> model.assign(flight, chute, overflow), () -> real.assign(flight, chute, overflow));
    }

    private void addUnit() {
        int flight = someFlight();
        char sort = rarely() ? 'g' : oneOf("eeetf");
        int room = rarely() ? upTo(10) : 1 + upTo(3);
        both("addUnit(" + flight + ", " + sort + ", " + room + ")",
                () -> model.addUnit(flight, sort, room), () -> real.addUnit(flight, sort, room));
    }

    private void message() {
        int tag = someTag();
        int flight = someFlight();
        int passenger = somePassenger();
        both("message(" + tag + ", " + flight + ", " + passenger + ")",
                () -> model.message(tag, flight, passenger), () -> real.message(tag, flight, passenger));
    }

    private void board() {
        int passenger = somePassenger();
        both("board(" + passenger + ")", () -> model.board(passenger), () -> real.board(passenger));
    }

    private void change() {
        int choice = upTo(99);
        if (choice < 30) {
            int ticks = rarely() ? upTo(62) - 1 : 1 + upTo(3);
            both("tick(" + ticks + ")", () -> model.tick(ticks), () -> real.tick(ticks));
        } else if (choice < 62) {
            addBag();
        } else if (choice < 80) {
            changeBag(choice);
        } else {
            changeOther(choice);
        }
    }

    private void addBag() {
        int node = someNode('i');
        int tag = someTag();
        int suspicion = rarely() ? upTo(6) - 2 : Math.max(0, upTo(isTight ? 5 : 8) - (isTight ? 2 : 5));
        char sort = rarely() ? 'x' : oneOf("eeeeft");
        both("addBag(" + node + ", " + tag + ", " + suspicion + ", " + sort + ")",
                () -> model.addBag(node, tag, suspicion, sort), () -> real.addBag(node, tag, suspicion, sort));
    }

    private int someHeldBag() {
        for (int b = 0; b < model.bags.size(); b++) {
            if (model.waitsForVerdict(b) && random.nextInt(3) > 0) {
                return b;
            }
        }
        return someBag();
    }

    private void changeBag(int choice) {
        if (choice < 70) {
            int bag = someHeldBag();
            boolean isClear = random.nextInt(4) > 0;
            both("verdict(" + bag + ", " + isClear + ")",
                    () -> model.verdict(bag, isClear), () -> real.verdict(bag, isClear));
        } else if (choice < 78) {
            int bag = someBag();
            int node = random.nextBoolean() ? someNode() : someNode(oneOf("ssccm"));
            both("carry(" + bag + ", " + node + ")", () -> model.carry(bag, node), () -> real.carry(bag, node));
        } else if (rarely()) {
            int bag = someBag();
            both("rush(" + bag + ")", () -> model.rush(bag), () -> real.rush(bag));
        }
    }

    private void changeOther(int choice) {
        int passenger = somePassenger();
        boolean is = random.nextInt(3) == 0;
        if (choice < 83) {
            int node = someNode();
            both("setFault(" + node + ", " + is + ")", () -> model.setFault(node, is), () -> real.setFault(node, is));
        } else if (choice < 85) {
            int node = someNode('r');
            char how = rarely() ? 'x' : oneOf("ooowm");
            both("setReader(" + node + ", " + how + ")", () -> model.setReader(node, how), () -> real.setReader(node, how));
        } else if (choice < 87) {
            boolean isOff = random.nextInt(4) == 0;
            both("setOff(" + passenger + ", " + isOff + ")",
                    () -> model.setOff(passenger, isOff), () -> real.setOff(passenger, isOff));
        } else if (choice < 88) {
            int group = rarely() ? upTo(12) - 1 : upTo(3);
            both("setGroup(" + passenger + ", " + group + ")",
                    () -> model.setGroup(passenger, group), () -> real.setGroup(passenger, group));
        } else if (choice < 91) {
            message();
        } else if (choice < 93) {
            board();
        } else if (choice < 94) {
            addFlight();
        } else if (choice < 95) {
            assign();
        } else if (choice < 96) {
            addUnit();
        } else {
            changeFlight(choice);
        }
    }

    private void changeFlight(int choice) {
        int flight = someFlight();
        if (choice < 97) {
            int time = someTime();
            both("setTime(" + flight + ", " + time + ")", () -> model.setTime(flight, time), () -> real.setTime(flight, time));
        } else if (choice < 98) {
            int ticks = rarely() ? upTo(1002) - 1 : upTo(60);
            both("setEarly(" + ticks + ")", () -> model.setEarly(ticks), () -> real.setEarly(ticks));
        } else if (choice < 99) {
            addNode(oneOf(KINDS));
            link(someNode(), someNode());
        } else if (random.nextInt(4) == 0) {
            both("cancel(" + flight + ")", () -> model.cancel(flight), () -> real.cancel(flight));
        }
    }

    private void ask() {
        int choice = upTo(25);
        if (choice < 14) {
            askOfBag(choice, someBag());
        } else if (choice < 20) {
            askOfPlace(choice);
        } else {
            askOfAll(choice);
        }
    }

    private void askOfBag(int choice, int bag) {
        String of = "(" + bag + ")";
        switch (choice) {
            case 0: both("whereIs" + of, () -> model.whereIs(bag), () -> real.whereIs(bag)); break;
            case 1: both("nodeOf" + of, () -> model.nodeOf(bag), () -> real.nodeOf(bag)); break;
            case 2: both("left" + of, () -> model.left(bag), () -> real.left(bag)); break;
            case 3: both("readTag" + of, () -> model.readTag(bag), () -> real.readTag(bag)); break;
            case 4: both("flightOf" + of, () -> model.flightOf(bag), () -> real.flightOf(bag)); break;
            case 5: both("isClear" + of, () -> model.isClear(bag), () -> real.isClear(bag)); break;
            case 6: both("level" + of, () -> model.level(bag), () -> real.level(bag)); break;
            case 7: both("goal" + of, () -> model.goal(bag), () -> real.goal(bag)); break;
            case 8: both("next" + of, () -> model.next(bag), () -> real.next(bag)); break;
            case 9: both("wayCost" + of, () -> model.wayCost(bag), () -> real.wayCost(bag)); break;
            case 10: both("waitsForVerdict" + of, () -> model.waitsForVerdict(bag), () -> real.waitsForVerdict(bag)); break;
            case 11: both("unitOf" + of, () -> model.unitOf(bag), () -> real.unitOf(bag)); break;
            case 12:
                int flight = someFlight();
                both("mayFly(" + bag + ", " + flight + ")", () -> model.mayFly(bag, flight), () -> real.mayFly(bag, flight));
                break;
            default:
                int index = upTo(6) - 1;
                both("textOf(" + bag + ", " + index + ")", () -> model.textOf(bag, index), () -> real.textOf(bag, index));
        }
    }

    private void askOfPlace(int choice) {
        int node = someNode();
        int flight = someFlight();
        int index = upTo(3) - (rarely() ? 1 : 0);
        switch (choice) {
            case 14: both("onNode(" + node + ")", () -> model.onNode(node), () -> real.onNode(node)); break;
            case 15: both("loaded(" + flight + ")", () -> model.loaded(flight), () -> real.loaded(flight)); break;
            case 16: both("stateOf(" + flight + ")", () -> model.stateOf(flight), () -> real.stateOf(flight)); break;
            case 17: both("timeOf(" + flight + ")", () -> model.timeOf(flight), () -> real.timeOf(flight)); break;
            default:
                both("bagOn(" + node + ", " + index + ")", () -> model.bagOn(node, index), () -> real.bagOn(node, index));
        }
    }

    private void askOfAll(int choice) {
        switch (choice) {
            case 20: both("ticks()", () -> model.ticks(), () -> real.ticks()); break;
            case 21: both("takenOut()", () -> model.takenOut(), () -> real.takenOut()); break;
            case 22: both("rings()", () -> model.rings(), () -> real.rings()); break;
            case 23: both("moves()", () -> model.moves(), () -> real.moves()); break;
            case 24: both("flownShare()", () -> model.flownShare(), () -> real.flownShare()); break;
            default:
                both("meanOnNode()", () -> model.meanOnNode(), () -> real.meanOnNode());
                both("bags()", () -> model.bags(), () -> real.bags());
                both("isSound()", () -> model.isSound(), () -> real.isSound());
        }
    }
}
