import java.util.ArrayList;
import java.util.Arrays;
import java.util.List;
import java.util.NoSuchElementException;

/**
 * The document once more, written apart from the class and in another way (numbers in rows; ways found by trying each
 * of them), so that both can be held against each other over many runs.
 */
final class Model {
    final List<Character> kind = new ArrayList<>();
    final List<int[]> measures = new ArrayList<>();
    final List<List<Integer>> links = new ArrayList<>();
    final List<List<Integer>> on = new ArrayList<>();
    final char[] how = new char[20];
    final boolean[] fault = new boolean[20];
    final boolean[] let = new boolean[20];
    final boolean[] took = new boolean[20];

    final List<Integer> times = new ArrayList<>();
    final char[] states = new char[10];
    final int[][] chutes = new int[10][2];
    final List<List<Character>> unitSorts = new ArrayList<>();
    final List<List<Integer>> unitRooms = new ArrayList<>();

    final int[][] messages = new int[100][];
    final boolean[] boarded = new boolean[40];
    final boolean[] off = new boolean[40];
    final int[] groups = new int[40];

    /** Of a bag: tag, suspicion, sort, tag read or -1, level passed, node or -1, ticks to do, unit or -1. */
    final List<int[]> bags = new ArrayList<>();
    final boolean[] clear = new boolean[50];
    final boolean[] rush = new boolean[50];
    final char[] where = new char[50];

    int now = 0;
    int early = 30;
    int out = 0;
    int ringed = 0;
    long came = 0;

    static final int TAG = 0;
    static final int SUSPICION = 1;
    static final int SORT = 2;
    static final int READ = 3;
    static final int PASSED = 4;
    static final int NODE = 5;
    static final int LEFT = 6;
    static final int UNIT = 7;

    private void bounds(boolean isGood) {
        if (!isGood) {
            throw new IndexOutOfBoundsException();
        }
    }

    private void argument(boolean isGood) {
        if (!isGood) {
            throw new IllegalArgumentException();
        }
    }

    private void support(boolean isGood) {
        if (!isGood) {
            throw new UnsupportedOperationException();
        }
    }

    private void state(boolean isGood) {
        if (!isGood) {
            throw new IllegalStateException();
        }
    }

    private void element(boolean isGood) {
        if (!isGood) {
            throw new NoSuchElementException();
        }
    }

    private boolean node(int n) {
        return 0 <= n && n < kind.size();
    }

    private boolean flight(int f) {
        return 0 <= f && f < times.size();
    }

    private int[] bag(int b) {
        bounds(0 <= b && b < bags.size());
        return bags.get(b);
    }

    int addNode(char k, int length, int room, int level) {
        argument("ibrsmecq".contains("" + k) && 1 <= length && length <= 9 && 1 <= room && room <= 9);
        argument(k != 's' || 1 <= level && level <= 3);
        state(kind.size() < 20);
        how[kind.size()] = 'o';
        kind.add(k);
        measures.add(new int[] {length, room, level});
        links.add(new ArrayList<>());
        on.add(new ArrayList<>());
        return kind.size() - 1;
    }

    int link(int from, int to) {
        bounds(node(from) && node(to));
        argument(from != to && !links.get(from).contains(to) && kind.get(from) != 'q' && kind.get(to) != 'i');
        state(links.get(from).size() < 4);
        links.get(from).add(to);
        return links.get(from).size();
    }

    char setReader(int n, char h) {
        bounds(node(n));
        argument(h == 'o' || h == 'w' || h == 'm');
        support(kind.get(n) == 'r');
        char before = how[n];
        how[n] = h;
        return before;
    }

    boolean setFault(int n, boolean is) {
        bounds(node(n));
        boolean before = fault[n];
        fault[n] = is;
        return before;
    }

    int addFlight(int time) {
        argument(time > now && time <= 9999);
        state(times.size() < 10);
        int f = times.size();
        times.add(time);
        states[f] = 'o';
        chutes[f] = new int[] {-1, -1};
        unitSorts.add(new ArrayList<>());
        unitRooms.add(new ArrayList<>());
        return f;
    }

    int setTime(int f, int time) {
        bounds(flight(f));
        argument(time > now && time <= 9999);
        support(states[f] == 'o' || states[f] == 'l');
        return times.set(f, time);
    }

    int cancel(int f) {
        bounds(flight(f));
        support(states[f] == 'o' || states[f] == 'l');
        states[f] = 'c';
        int count = 0;
        for (int b = 0; b < bags.size(); b++) {
            if (where[b] == 'u' && bags.get(b)[UNIT] / 10 == f) {
                aside(b);
                count++;
            }
        }
        return count;
    }

    private void aside(int b) {
        where[b] = 's';
        bags.get(b)[UNIT] = -1;
        out++;
    }

    int assign(int f, int chute, int overflow) {
        bounds(flight(f) && node(chute) && (overflow == -1 || node(overflow)));
        argument(kind.get(chute) == 'c' && (overflow == -1 || kind.get(overflow) == 'c') && chute != overflow);
        support(states[f] == 'o' || states[f] == 'l');
        int before = chutes[f][0];
        chutes[f] = new int[] {chute, overflow};
        return before;
    }

    int addUnit(int f, char sort, int room) {
        bounds(flight(f));
        argument((sort == 'f' || sort == 'e' || sort == 't') && 1 <= room && room <= 9);
        support(states[f] == 'o');
        state(unitSorts.get(f).size() < 4);
        unitSorts.get(f).add(sort);
        unitRooms.get(f).add(room);
        return unitSorts.get(f).size() - 1;
    }

    int setEarly(int ticks) {
        argument(0 <= ticks && ticks <= 999);
        int before = early;
        early = ticks;
        return before;
    }

    boolean message(int tag, int f, int passenger) {
        argument(0 <= tag && tag < 100 && 0 <= passenger && passenger < 40);
        bounds(flight(f));
        boolean before = messages[tag] != null;
        messages[tag] = new int[] {f, passenger};
        return before;
    }

    boolean board(int p) {
        argument(0 <= p && p < 40);
        boolean before = boarded[p];
        boarded[p] = true;
        return !before;
    }

    boolean setOff(int p, boolean is) {
        argument(0 <= p && p < 40);
        boolean before = off[p];
        off[p] = is;
        return before;
    }

    int setGroup(int p, int g) {
        argument(0 <= p && p < 40 && 0 <= g && g <= 9);
        int before = groups[p];
        groups[p] = g;
        return before;
    }

    int addBag(int n, int tag, int suspicion, char sort) {
        bounds(node(n));
        argument(kind.get(n) == 'i' && 0 <= tag && tag <= 99 && 0 <= suspicion && suspicion <= 3);
        argument(sort == 'f' || sort == 'e' || sort == 't');
        support(hasRoom(n) && !fault[n]);
        state(bags.size() < 50);
        bags.add(new int[] {tag, suspicion, sort, -1, 0, -1, 0, -1});
        arrive(bags.size() - 1, n);
        return bags.size() - 1;
    }

    boolean rush(int b) {
        bag(b);
        boolean before = rush[b];
        rush[b] = true;
        return !before;
    }

    int verdict(int b, boolean isClear) {
        int n = bag(b)[NODE];
        support(waitsForVerdict(b));
        if (isClear) {
            clear[b] = true;
        } else {
            on.get(n).remove((Integer) b);
            bags.get(b)[NODE] = -1;
            where[b] = 'x';
        }
        return n;
    }

    int carry(int b, int n) {
        int[] it = bag(b);
        bounds(node(n));
        support((where[b] == 'n' || where[b] == 's') && it[NODE] != n);
        state(hasRoom(n) && !fault[n]);
        int before = it[NODE];
        if (before >= 0) {
            on.get(before).remove((Integer) b);
        }
        arrive(b, n);
        return before;
    }

    private boolean hasRoom(int n) {
        return on.get(n).size() < measures.get(n)[1];
    }

    private void arrive(int b, int n) {
        int[] it = bags.get(b);
        on.get(n).add(b);
        where[b] = 'n';
        it[NODE] = n;
        it[LEFT] = measures.get(n)[0];
        came++;
        if (kind.get(n) == 'r' && it[READ] < 0 && how[n] != 'm') {
            it[READ] = how[n] == 'w' ? (it[TAG] + 1) % 100 : it[TAG];
        }
    }

    int tick(int count) {
        argument(1 <= count && count <= 60);
        for (int i = 0; i < count; i++) {
            now++;
            workAll();
            Arrays.fill(let, false);
            Arrays.fill(took, false);
            boolean again = true;
            while (again) {
                again = false;
                for (int n = 0; n < kind.size(); n++) {
                    again |= push(n);
                }
            }
            for (int n = 0; n < kind.size(); n++) {
                ring(n);
            }
            for (int n = 0; n < kind.size(); n++) {
                load(n);
            }
            for (int f = 0; f < times.size(); f++) {
                depart(f);
            }
        }
        return now;
    }

    private void workAll() {
        for (int n = 0; n < kind.size(); n++) {
            if (fault[n]) {
                continue;
            }
            for (int b : on.get(n)) {
                int[] it = bags.get(b);
                if (it[LEFT] == 0) {
                    continue;
                }
                it[LEFT]--;
                if (it[LEFT] == 0 && kind.get(n) == 'm' && it[READ] < 0) {
                    it[READ] = it[TAG];
                }
                int k = measures.get(n)[2];
                if (it[LEFT] == 0 && kind.get(n) == 's' && k != 3 && !clear[b]) {
                    clear[b] = it[SUSPICION] < k;
                    it[PASSED] = clear[b] ? it[PASSED] : k;
                }
            }
        }
    }

    private int leavers(int n) {
        return kind.get(n) == 'q' ? 0 : "ibrs".indexOf(kind.get(n)) >= 0 ? Math.min(1, on.get(n).size()) : on.get(n).size();
    }

    private boolean push(int n) {
        if (let[n] || fault[n]) {
            return false;
        }
        for (int i = 0; i < leavers(n); i++) {
            int b = on.get(n).get(i);
            int[] way = bags.get(b)[LEFT] == 0 ? way(b) : null;
            if (way != null && hasRoom(way[1]) && !took[way[1]]) {
                on.get(n).remove((Integer) b);
                arrive(b, way[1]);
                let[n] = true;
                took[way[1]] = true;
                return true;
            }
        }
        return false;
    }

    private void ring(int start) {
        List<Integer> nodes = new ArrayList<>();
        List<Integer> going = new ArrayList<>();
        int n = start;
        do {
            if (nodes.contains(n) || let[n] || took[n] || fault[n] || hasRoom(n)) {
                return;
            }
            int goer = -1;
            for (int i = 0; i < leavers(n) && goer < 0; i++) {
                int b = on.get(n).get(i);
                if (bags.get(b)[LEFT] == 0 && !ends(b).contains(n)) {
                    goer = b;
                }
            }
            int[] way = goer < 0 ? null : way(goer);
            if (way == null) {
                return;
            }
            nodes.add(n);
            going.add(goer);
            n = way[1];
        } while (n != start);
        for (int i = 0; i < nodes.size(); i++) {
            on.get(nodes.get(i)).remove(going.get(i));
        }
        for (int i = 0; i < nodes.size(); i++) {
            let[nodes.get(i)] = true;
            took[nodes.get(i)] = true;
            arrive(going.get(i), nodes.get((i + 1) % nodes.size()));
        }
        ringed++;
    }

    private void load(int n) {
        if (kind.get(n) != 'c' || fault[n]) {
            return;
        }
        for (int b : on.get(n)) {
            int f = flightRead(b);
            if (f < 0 || states[f] != 'o' || !clear[b] || bags.get(b)[LEFT] > 0) {
                continue;
            }
            for (int u = 0; u < unitSorts.get(f).size(); u++) {
                boolean fits = unitSorts.get(f).get(u) == bags.get(b)[SORT];
                if (fits && inUnit(f, u) < unitRooms.get(f).get(u)) {
                    on.get(n).remove((Integer) b);
                    where[b] = 'u';
                    bags.get(b)[NODE] = -1;
                    bags.get(b)[UNIT] = 10 * f + u;
                    return;
                }
            }
        }
    }

    private int inUnit(int f, int u) {
        int count = 0;
        for (int[] it : bags) {
            count += it[UNIT] == 10 * f + u ? 1 : 0;
        }
        return count;
    }

    private void depart(int f) {
        if (states[f] != 'o' && states[f] != 'l' || times.get(f) > now) {
            return;
        }
        int before = out;
        for (int b = 0; b < bags.size(); b++) {
            if (where[b] == 'u' && bags.get(b)[UNIT] / 10 == f && !mayFly(b, f)) {
                aside(b);
            }
        }
        if (out > before) {
            states[f] = 'l';
            times.set(f, times.get(f) + 2 * (out - before));
            return;
        }
        states[f] = 'd';
        for (int b = 0; b < bags.size(); b++) {
            if (where[b] == 'u' && bags.get(b)[UNIT] / 10 == f) {
                where[b] = 'f';
            }
        }
    }

    int ticks() {
        return now;
    }

    char whereIs(int b) {
        bag(b);
        return where[b];
    }

    int nodeOf(int b) {
        element(bag(b)[NODE] >= 0);
        return bag(b)[NODE];
    }

    int left(int b) {
        element(bag(b)[NODE] >= 0);
        return bag(b)[LEFT];
    }

    int readTag(int b) {
        element(bag(b)[READ] >= 0);
        return bag(b)[READ];
    }

    int flightOf(int b) {
        bag(b);
        element(flightRead(b) >= 0);
        return flightRead(b);
    }

    private int flightRead(int b) {
        int tag = bags.get(b)[READ];
        return tag < 0 || messages[tag] == null ? -1 : messages[tag][0];
    }

    boolean isClear(int b) {
        bag(b);
        return clear[b];
    }

    int level(int b) {
        return bag(b)[PASSED];
    }

    char goal(int b) {
        element(bag(b)[NODE] >= 0);
        int f = flightRead(b);
        if (f < 0) {
            return 'm';
        }
        if (!clear[b]) {
            return 's';
        }
        if (states[f] != 'o') {
            return 'q';
        }
        return times.get(f) > now + early || chutes[f][0] < 0 ? 'e' : 'c';
    }

    /** The nodes that are what a bag on a node wants. */
    private List<Integer> ends(int b) {
        List<Integer> ends = new ArrayList<>();
        char goal = goal(b);
        if (goal == 'c') {
            int[] chute = chutes[flightRead(b)];
            int others = on.get(chute[0]).size() - (bag(b)[NODE] == chute[0] ? 1 : 0);
            ends.add(others >= measures.get(chute[0])[1] && chute[1] >= 0 ? chute[1] : chute[0]);
            return ends;
        }
        for (int n = 0; n < kind.size(); n++) {
            if (kind.get(n) == goal && (goal != 's' || measures.get(n)[2] == bag(b)[PASSED] + 1)) {
                ends.add(n);
            }
        }
        return ends;
    }

    /** The cost of the way of a bag, and the next node; null without one. */
    private int[] way(int b) {
        int n = bag(b)[NODE];
        if (n < 0 || ends(b).contains(n)) {
            return null;
        }
        int[] best = null;
        boolean[] seen = new boolean[20];
        seen[n] = true;
        for (int to : links.get(n)) {
            int cost = tryWay(to, ends(b), seen, 0);
            if (cost >= 0 && (best == null || cost < best[0] || cost == best[0] && to < best[1])) {
                best = new int[] {cost, to};
            }
        }
        return best;
    }

    /** The least cost of coming to a node and on to an end, over nodes that were not seen; -1 without a way. */
    private int tryWay(int n, List<Integer> ends, boolean[] seen, int depth) {
        if (fault[n] || seen[n] || depth > 20) {
            return -1;
        }
        int here = measures.get(n)[0] + on.get(n).size();
        if (ends.contains(n)) {
            return here;
        }
        if (kind.get(n) != 'b' && kind.get(n) != 'r') {
            return -1;
        }
        seen[n] = true;
        int best = -1;
        for (int to : links.get(n)) {
            int cost = tryWay(to, ends, seen, depth + 1);
            if (cost >= 0 && (best < 0 || here + cost < best)) {
                best = here + cost;
            }
        }
        seen[n] = false;
        return best;
    }

    int next(int b) {
        bag(b);
        int[] way = way(b);
        element(way != null);
        return way[1];
    }

    int wayCost(int b) {
        bag(b);
        int[] way = way(b);
        element(way != null);
        return way[0];
    }

    boolean waitsForVerdict(int b) {
        int[] it = bag(b);
        return it[NODE] >= 0 && kind.get(it[NODE]) == 's' && measures.get(it[NODE])[2] == 3 && it[LEFT] == 0 && !clear[b];
    }

    int onNode(int n) {
        bounds(node(n));
        return on.get(n).size();
    }

    int bagOn(int n, int index) {
        bounds(node(n));
        element(0 <= index && index < on.get(n).size());
        return on.get(n).get(index);
    }

    int unitOf(int b) {
        bag(b);
        element(where[b] == 'u');
        return bag(b)[UNIT];
    }

    int loaded(int f) {
        bounds(flight(f));
        int sum = 0;
        for (int u = 0; u < 4; u++) {
            sum += inUnit(f, u);
        }
        return sum;
    }

    char stateOf(int f) {
        bounds(flight(f));
        return states[f];
    }

    int timeOf(int f) {
        bounds(flight(f));
        return times.get(f);
    }

    boolean mayFly(int b, int f) {
        int[] it = bag(b);
        bounds(flight(f));
        if (rush[b]) {
            return true;
        }
        int[] message = messages[it[TAG]];
        if (message == null || message[0] != f || !boarded[message[1]] || off[message[1]]) {
            return false;
        }
        for (int p = 0; p < 40; p++) {
            if (off[p] && groups[p] > 0 && groups[p] == groups[message[1]]) {
                return false;
            }
        }
        return true;
    }

    int takenOut() {
        return out;
    }

    int rings() {
        return ringed;
    }

    int bags() {
        return bags.size();
    }

    char textOf(int b, int index) {
        bag(b);
        String text = b + "" + where[b] + (where[b] == 'n' ? "" + goal(b) : "");
        element(0 <= index && index < text.length());
        return text.charAt(index);
    }

    long moves() {
        return came;
    }

    private int countWhere(char letter) {
        int count = 0;
        for (int b = 0; b < bags.size(); b++) {
            count += where[b] == letter ? 1 : 0;
        }
        return count;
    }

    float flownShare() {
        if (bags.isEmpty()) {
            throw new ArithmeticException();
        }
        return (float) countWhere('f') / bags.size();
    }

    double meanOnNode() {
        if (kind.isEmpty()) {
            throw new ArithmeticException();
        }
        return (double) countWhere('n') / kind.size();
    }

    boolean isSound() {
        return true;
    }
}
