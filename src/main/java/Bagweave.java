import java.util.NoSuchElementException;

/** The way of bags beneath an airport, tick by tick. */
public final class Bagweave {
    private static final int MOST_NODES = 20;
    private static final int MOST_LINKS = 4;
    private static final int MOST_FLIGHTS = 10;
    private static final int MOST_UNITS = 4;
    private static final int MOST_BAGS = 50;
    private static final int TAGS = 100;
    private static final int PASSENGERS = 40;
    private static final int HIGHEST_GROUP = 9;
    private static final int HIGHEST_SUSPICION = 3;
    private static final int LATEST_TIME = 9999;
    private static final int MOST_EARLY = 999;
    private static final int MOST_TICKS = 60;
    private static final int DELAY_PER_BAG = 2;
    private static final int NOT_READ = -1;
    /** Far above the cost of any way: at most 20 nodes, each with at most 9 for its length and 9 for its bags. */
    private static final int NO_WAY = 1000000;

    private final Node[] nodes = new Node[MOST_NODES];
    private final Flight[] flights = new Flight[MOST_FLIGHTS];
    private final Bag[] allBags = new Bag[MOST_BAGS];
    private final Message[] messages = new Message[TAGS];
    private final Passenger[] passengers = new Passenger[PASSENGERS];
    private int nodeCount;
    private int flightCount;
    private int bagCount;
    private int now;
    private int early = 30;
    private int takenOutCount;
    private int ringCount;
    private long moveCount;

    /** Bags in the order in which they came, up to a room. */
    private static final class Row {
        private final Bag[] places;
        private int count;

        private Row(int room) {
            places = new Bag[room < 1 ? 1 : room];
        }

        private boolean hasRoom() {
            return count < places.length;
        }

        private Bag at(int index) {
            return index >= 0 && index < count && index < places.length ? places[index] : null;
        }

        private void put(Bag bag) {
            if (count >= 0 && count < places.length) {
                places[count] = bag;
                count++;
            }
        }

        private void drop(Bag bag) {
            boolean isFound = false;
            for (int i = 0; i < count && i < places.length; i++) {
                isFound = isFound || places[i] == bag;
                if (isFound) {
                    places[i] = i + 1 < count && i + 1 < places.length ? places[i + 1] : null;
                }
            }
            if (isFound) {
                count--;
            }
        }

        private int timesOf(Bag bag) {
            int times = 0;
            for (int i = 0; i < count; i++) {
                if (at(i) == bag) {
                    times++;
                }
            }
            return times;
        }
    }

    private static final class Node {
        private final int number;
        private final char kind;
        private final int length;
        private final int screenLevel;
        private final Row row;
        private final Node[] targets = new Node[MOST_LINKS];
        private int targetCount;
        private char how = 'o';
        private boolean isFaulty;
        /** Of the tick that goes on: whether it let a bag go, and whether one came. */
        private boolean hasLet;
        private boolean hasTaken;
        /** The cost of coming here and on to where a bag wants to, as last reckoned. */
        private int cost = NO_WAY;
        /** The bag that goes on in a ring that is being followed, and where it goes. */
        private Bag goer;
        private Node onward;

        private Node(int number, char kind, int length, int room, int screenLevel) {
            this.number = number;
            this.kind = kind;
            this.length = length;
            this.screenLevel = screenLevel;
            this.row = new Row(room);
        }

        private boolean isBelt() {
            return kind == 'b' || kind == 'r';
        }

        private boolean letsOnlyFirst() {
            return kind == 'i' || kind == 's' || isBelt();
        }

        private int costToEnter() {
            return length + row.count;
        }

        private boolean leadsTo(Node other) {
            for (Node target : targets) {
                if (target != null && target == other) {
                    return true;
                }
            }
            return false;
        }

        /** The node of the least cost to which this one leads, of several the lowest; null if none has a way. */
        private Node bestTarget() {
            Node best = null;
            for (Node target : targets) {
                if (target != null && target.cost < NO_WAY && (best == null || target.cost < best.cost
                        || target.cost == best.cost && target.number < best.number)) {
                    best = target;
                }
            }
            return best;
        }
    }

    private static final class Bag {
        private final int number;
        private final int tag;
        private final int suspicion;
        private final char sort;
        private int tagRead = NOT_READ;
        private boolean isCleared;
        private int passed;
        private boolean isRush;
        /** The letter of whereIs; the node is null unless it is 'n', the unit unless it is 'u' or 'f'. */
        private char place = 's';
        private Node node;
        private int ticksLeft;
        private Unit unit;
        private boolean wasAllowed;

        private Bag(int number, int tag, int suspicion, char sort) {
            this.number = number;
            this.tag = tag;
            this.suspicion = suspicion;
            this.sort = sort;
        }

        private boolean isDone() {
            return ticksLeft == 0;
        }

        private boolean awaitsVerdict() {
            return node != null && node.kind == 's' && node.screenLevel == 3 && isDone() && !isCleared;
        }
    }

    private static final class Unit {
        private final Flight flight;
        private final int number;
        private final char sort;
        private final Row row;

        private Unit(Flight flight, int number, char sort, int room) {
            this.flight = flight;
            this.number = number;
            this.sort = sort;
            this.row = new Row(room);
        }
    }

    private static final class Flight {
        private final int number;
        private int time;
        private char state = 'o';
        private Node chute;
        private Node overflow;
        private final Unit[] units = new Unit[MOST_UNITS];
        private int unitCount;

        private Flight(int number, int time) {
            this.number = number;
            this.time = time;
        }

        private boolean isOver() {
            return state == 'd' || state == 'c';
        }

        private Unit roomFor(char sort) {
            for (Unit unit : units) {
                if (unit != null && unit.sort == sort && unit.row.hasRoom()) {
                    return unit;
                }
            }
            return null;
        }
    }

    private static final class Passenger {
        private boolean hasBoarded;
        private boolean isOff;
        private int group;
    }

    private static final class Message {
        private Flight flight;
        private Passenger passenger;
    }

    public Bagweave() {
        for (int i = 0; i < passengers.length; i++) {
            passengers[i] = new Passenger();
        }
    }

    // ---- the net ----

    public int addNode(char kind, int length, int room, int level)
            throws IllegalArgumentException, IllegalStateException {
        if ("ibrsmecq".indexOf(kind) < 0 || !isWithin(length, 1, 9) || !isWithin(room, 1, 9)
                || kind == 's' && !isWithin(level, 1, 3)) {
            throw new IllegalArgumentException("no such kind, or a number out of range");
        }
        if (nodeCount < 0 || nodeCount >= nodes.length) {
            throw new IllegalStateException("there are 20 nodes");
        }
        int number = nodeCount;
        nodes[number] = new Node(number, kind, length, room, level);
        nodeCount++;
        return number;
    }

    public int link(int from, int to)
            throws IndexOutOfBoundsException, IllegalArgumentException, IllegalStateException {
        Node first = nodeOrThrow(from);
        Node second = nodeOrThrow(to);
        if (first == second || first.leadsTo(second) || first.kind == 'q' || second.kind == 'i') {
            throw new IllegalArgumentException("no such link can be");
        }
        if (first.targetCount < 0 || first.targetCount >= first.targets.length) {
            throw new IllegalStateException("it leads to 4");
        }
        first.targets[first.targetCount] = second;
        first.targetCount++;
        return first.targetCount;
    }

    public char setReader(int node, char how)
            throws IndexOutOfBoundsException, IllegalArgumentException, UnsupportedOperationException {
        Node reader = nodeOrThrow(node);
        if ("owm".indexOf(how) < 0) {
            throw new IllegalArgumentException("no such way of reading");
        }
        if (reader.kind != 'r') {
            throw new UnsupportedOperationException("no reader");
        }
        char before = reader.how;
        reader.how = how;
        return before;
    }

    public boolean setFault(int node, boolean is) throws IndexOutOfBoundsException {
        Node faulty = nodeOrThrow(node);
        boolean before = faulty.isFaulty;
        faulty.isFaulty = is;
        return before;
    }

    // ---- flights ----

    public int addFlight(int time) throws IllegalArgumentException, IllegalStateException {
        requireTime(time);
        if (flightCount < 0 || flightCount >= flights.length) {
            throw new IllegalStateException("there are 10 flights");
        }
        int number = flightCount;
        flights[number] = new Flight(number, time);
        flightCount++;
        return number;
    }

    public int setTime(int flight, int time)
            throws IndexOutOfBoundsException, IllegalArgumentException, UnsupportedOperationException {
        Flight set = flightOrThrow(flight);
        requireTime(time);
        requireNotOver(set);
        int before = set.time;
        set.time = time;
        return before;
    }

    public int cancel(int flight) throws IndexOutOfBoundsException, UnsupportedOperationException {
        Flight cancelled = flightOrThrow(flight);
        requireNotOver(cancelled);
        cancelled.state = 'c';
        return putAside(cancelled, true);
    }

    public int assign(int flight, int chute, int overflow)
            throws IndexOutOfBoundsException, IllegalArgumentException, UnsupportedOperationException {
        Flight given = flightOrThrow(flight);
        Node first = nodeOrThrow(chute);
        Node second = overflow == -1 ? null : nodeOrThrow(overflow);
        if (first.kind != 'c' || second != null && second.kind != 'c' || first == second) {
            throw new IllegalArgumentException("no chute, or both the same");
        }
        requireNotOver(given);
        int before = given.chute == null ? -1 : given.chute.number;
        given.chute = first;
        given.overflow = second;
        return before;
    }

    public int addUnit(int flight, char sort, int room) throws IndexOutOfBoundsException,
            IllegalArgumentException, UnsupportedOperationException, IllegalStateException {
        Flight loading = flightOrThrow(flight);
        if (!isSort(sort) || !isWithin(room, 1, 9)) {
            throw new IllegalArgumentException("no such class or room");
        }
        if (loading.state != 'o') {
            throw new UnsupportedOperationException("the flight is not open");
        }
        if (loading.unitCount < 0 || loading.unitCount >= loading.units.length) {
            throw new IllegalStateException("it has 4 units");
        }
        int number = loading.unitCount;
        loading.units[number] = new Unit(loading, number, sort, room);
        loading.unitCount++;
        return number;
    }

    public int setEarly(int ticks) throws IllegalArgumentException {
        if (!isWithin(ticks, 0, MOST_EARLY)) {
            throw new IllegalArgumentException("no such early limit");
        }
        int before = early;
        early = ticks;
        return before;
    }

    // ---- messages and passengers ----

    public boolean message(int tag, int flight, int passenger)
            throws IllegalArgumentException, IndexOutOfBoundsException {
        if (tag < 0 || tag >= messages.length) {
            throw new IllegalArgumentException("no such tag");
        }
        Passenger told = passengerOrThrow(passenger);
        Flight toldFlight = flightOrThrow(flight);
        boolean isRepeated = messages[tag] != null;
        Message message = isRepeated ? messages[tag] : new Message();
        message.flight = toldFlight;
        message.passenger = told;
        messages[tag] = message;
        return isRepeated;
    }

    public boolean board(int passenger) throws IllegalArgumentException {
        Passenger boarding = passengerOrThrow(passenger);
        boolean isNew = !boarding.hasBoarded;
        boarding.hasBoarded = true;
        return isNew;
    }

    public boolean setOff(int passenger, boolean is) throws IllegalArgumentException {
        Passenger set = passengerOrThrow(passenger);
        boolean before = set.isOff;
        set.isOff = is;
        return before;
    }

    public int setGroup(int passenger, int group) throws IllegalArgumentException {
        Passenger set = passengerOrThrow(passenger);
        if (!isWithin(group, 0, HIGHEST_GROUP)) {
            throw new IllegalArgumentException("no such group");
        }
        int before = set.group;
        set.group = group;
        return before;
    }

    // ---- bags ----

    public int addBag(int node, int tag, int suspicion, char sort) throws IndexOutOfBoundsException,
            IllegalArgumentException, UnsupportedOperationException, IllegalStateException {
        Node input = nodeOrThrow(node);
        if (input.kind != 'i' || !isWithin(tag, 0, TAGS - 1) || !isWithin(suspicion, 0, HIGHEST_SUSPICION)
                || !isSort(sort)) {
            throw new IllegalArgumentException("no input, or no such tag, suspicion or class");
        }
        if (!input.row.hasRoom() || input.isFaulty) {
            throw new UnsupportedOperationException("the input is full, or at fault");
        }
        if (bagCount < 0 || bagCount >= allBags.length) {
            throw new IllegalStateException("there are 50 bags");
        }
        Bag bag = new Bag(bagCount, tag, suspicion, sort);
        allBags[bagCount] = bag;
        bagCount++;
        come(bag, input);
        return bag.number;
    }

    public boolean rush(int bag) throws IndexOutOfBoundsException {
        Bag rushed = bagOrThrow(bag);
        boolean isNew = !rushed.isRush;
        rushed.isRush = true;
        return isNew;
    }

    public int verdict(int bag, boolean isClear) throws IndexOutOfBoundsException, UnsupportedOperationException {
        Bag judged = bagOrThrow(bag);
        Node node = judged.node;
        if (node == null || !judged.awaitsVerdict()) {
            throw new UnsupportedOperationException("it does not wait for a verdict");
        }
        if (isClear) {
            judged.isCleared = true;
        } else {
            leave(judged);
            judged.place = 'x';
        }
        return node.number;
    }

    public int carry(int bag, int node)
            throws IndexOutOfBoundsException, UnsupportedOperationException, IllegalStateException {
        Bag carried = bagOrThrow(bag);
        Node to = nodeOrThrow(node);
        Node from = carried.node;
        if (carried.place != 'n' && carried.place != 's' || from == to) {
            throw new UnsupportedOperationException("neither on a node nor at the side, or there");
        }
        if (!to.row.hasRoom() || to.isFaulty) {
            throw new IllegalStateException("the node is full, or at fault");
        }
        leave(carried);
        come(carried, to);
        return from == null ? -1 : from.number;
    }

    // ---- time ----

    public int tick(int ticks) throws IllegalArgumentException {
        if (!isWithin(ticks, 1, MOST_TICKS)) {
            throw new IllegalArgumentException("no such number of ticks");
        }
        for (int i = 0; i < ticks; i++) {
            goOneTick();
        }
        return now;
    }

    public int ticks() {
        return now;
    }

    // ---- what a bag tells ----

    public char whereIs(int bag) throws IndexOutOfBoundsException {
        return bagOrThrow(bag).place;
    }

    public int nodeOf(int bag) throws IndexOutOfBoundsException, NoSuchElementException {
        return nodeUnderOrThrow(bagOrThrow(bag)).number;
    }

    public int left(int bag) throws IndexOutOfBoundsException, NoSuchElementException {
        Bag asked = bagOrThrow(bag);
        nodeUnderOrThrow(asked);
        return asked.ticksLeft;
    }

    public int readTag(int bag) throws IndexOutOfBoundsException, NoSuchElementException {
        Bag asked = bagOrThrow(bag);
        if (asked.tagRead == NOT_READ) {
            throw new NoSuchElementException("it was not read");
        }
        return asked.tagRead;
    }

    public int flightOf(int bag) throws IndexOutOfBoundsException, NoSuchElementException {
        Flight flight = flightRead(bagOrThrow(bag));
        if (flight == null) {
            throw new NoSuchElementException("it has no flight");
        }
        return flight.number;
    }

    public boolean isClear(int bag) throws IndexOutOfBoundsException {
        return bagOrThrow(bag).isCleared;
    }

    public int level(int bag) throws IndexOutOfBoundsException {
        return bagOrThrow(bag).passed;
    }

    public char goal(int bag) throws IndexOutOfBoundsException, NoSuchElementException {
        Bag asked = bagOrThrow(bag);
        nodeUnderOrThrow(asked);
        return wishOf(asked);
    }

    public int next(int bag) throws IndexOutOfBoundsException, NoSuchElementException {
        return wayOrThrow(bag).number;
    }

    public int wayCost(int bag) throws IndexOutOfBoundsException, NoSuchElementException {
        return wayOrThrow(bag).cost;
    }

    public boolean waitsForVerdict(int bag) throws IndexOutOfBoundsException {
        return bagOrThrow(bag).awaitsVerdict();
    }

    public int onNode(int node) throws IndexOutOfBoundsException {
        return nodeOrThrow(node).row.count;
    }

    public int bagOn(int node, int index) throws IndexOutOfBoundsException, NoSuchElementException {
        Bag bag = nodeOrThrow(node).row.at(index);
        if (bag == null) {
            throw new NoSuchElementException("no such bag on the node");
        }
        return bag.number;
    }

    public int unitOf(int bag) throws IndexOutOfBoundsException, NoSuchElementException {
        Bag asked = bagOrThrow(bag);
        Unit unit = asked.unit;
        if (unit == null || asked.place != 'u') {
            throw new NoSuchElementException("it is in no unit");
        }
        return 10 * unit.flight.number + unit.number;
    }

    // ---- what flights and the whole tell ----

    public int loaded(int flight) throws IndexOutOfBoundsException {
        int sum = 0;
        for (Unit unit : flightOrThrow(flight).units) {
            if (unit != null) {
                sum += unit.row.count;
            }
        }
        return sum;
    }

    public char stateOf(int flight) throws IndexOutOfBoundsException {
        return flightOrThrow(flight).state;
    }

    public int timeOf(int flight) throws IndexOutOfBoundsException {
        return flightOrThrow(flight).time;
    }

    public boolean mayFly(int bag, int flight) throws IndexOutOfBoundsException {
        Bag asked = bagOrThrow(bag);
        return isAllowed(asked, flightOrThrow(flight));
    }

    public int takenOut() {
        return takenOutCount;
    }

    public int rings() {
        return ringCount;
    }

    public int bags() {
        return bagCount;
    }

    public char textOf(int bag, int index) throws IndexOutOfBoundsException, NoSuchElementException {
        Bag asked = bagOrThrow(bag);
        StringBuilder text = new StringBuilder();
        text.append(asked.number).append(asked.place);
        if (asked.node != null) {
            text.append(wishOf(asked));
        }
        if (index < 0 || index >= text.length()) {
            throw new NoSuchElementException("no such letter");
        }
        return text.charAt(index);
    }

    public long moves() {
        return moveCount;
    }

    public float flownShare() throws ArithmeticException {
        if (bagCount == 0) {
            throw new ArithmeticException("no bags");
        }
        return (float) countPlaced('f') / (float) bagCount;
    }

    public double meanOnNode() throws ArithmeticException {
        if (nodeCount == 0) {
            throw new ArithmeticException("no nodes");
        }
        return (double) countPlaced('n') / (double) nodeCount;
    }

    public boolean isSound() {
        for (Bag bag : allBags) {
            if (bag != null && !isInOnePlace(bag)) {
                return false;
            }
            if (bag != null && bag.place == 'f' && !bag.wasAllowed) {
                return false;
            }
        }
        return areRoomsKept();
    }

    // ---- looking up ----

    private static boolean isWithin(int number, int least, int most) {
        return number >= least && number <= most;
    }

    private static boolean isSort(char sort) {
        return "fet".indexOf(sort) >= 0;
    }

    private Node nodeOrThrow(int number) {
        Node node = number >= 0 && number < nodes.length ? nodes[number] : null;
        if (node == null) {
            throw new IndexOutOfBoundsException("no such node");
        }
        return node;
    }

    private Flight flightOrThrow(int number) {
        Flight flight = number >= 0 && number < flights.length ? flights[number] : null;
        if (flight == null) {
            throw new IndexOutOfBoundsException("no such flight");
        }
        return flight;
    }

    private Bag bagOrThrow(int number) {
        Bag bag = number >= 0 && number < allBags.length ? allBags[number] : null;
        if (bag == null) {
            throw new IndexOutOfBoundsException("no such bag");
        }
        return bag;
    }

    private Passenger passengerOrThrow(int number) {
        Passenger passenger = number >= 0 && number < passengers.length ? passengers[number] : null;
        if (passenger == null) {
            throw new IllegalArgumentException("no such passenger");
        }
        return passenger;
    }

    private Node nodeUnderOrThrow(Bag bag) {
        if (bag.node == null) {
            throw new NoSuchElementException("it is on no node");
        }
        return bag.node;
    }

    private Node wayOrThrow(int number) {
        Node next = findNext(bagOrThrow(number));
        if (next == null) {
            throw new NoSuchElementException("on no node, as it wants, or without a way");
        }
        return next;
    }

    private void requireTime(int time) {
        if (time <= now || time > LATEST_TIME) {
            throw new IllegalArgumentException("no such time");
        }
    }

    private static void requireNotOver(Flight flight) {
        if (flight.isOver()) {
            throw new UnsupportedOperationException("the flight has left, or is cancelled");
        }
    }

    /** The flight of the tag that was read; null if none was, or there is no message for it. */
    private Flight flightRead(Bag bag) {
        int tag = bag.tagRead;
        Message message = tag >= 0 && tag < messages.length ? messages[tag] : null;
        return message == null ? null : message.flight;
    }

    // ---- coming and leaving ----

    private void come(Bag bag, Node node) {
        bag.place = 'n';
        bag.node = node;
        bag.ticksLeft = node.length;
        node.row.put(bag);
        moveCount++;
        if (node.kind == 'r' && bag.tagRead == NOT_READ) {
            bag.tagRead = tagAsRead(bag.tag, node.how);
        }
    }

    private static int tagAsRead(int tag, char how) {
        if (how == 'm') {
            return NOT_READ;
        }
        return how == 'w' ? (tag + 1) % TAGS : tag;
    }

    /** Takes a bag from its node or unit to the side. */
    private static void leave(Bag bag) {
        if (bag.node != null) {
            bag.node.row.drop(bag);
            bag.node = null;
        }
        if (bag.unit != null) {
            bag.unit.row.drop(bag);
            bag.unit = null;
        }
        bag.place = 's';
    }

    /** Takes the bags of a flight's units to the side, all of them or those that may not fly. */
    private int putAside(Flight flight, boolean isForAll) {
        int count = 0;
        for (Bag bag : allBags) {
            if (bag != null && bag.unit != null && bag.unit.flight == flight
                    && (isForAll || !isAllowed(bag, flight))) {
                leave(bag);
                count++;
            }
        }
        takenOutCount += count;
        return count;
    }

    // ---- who may fly ----

    private boolean isAllowed(Bag bag, Flight flight) {
        if (bag.isRush) {
            return true;
        }
        Message message = bag.tag >= 0 && bag.tag < messages.length ? messages[bag.tag] : null;
        if (message == null || message.flight != flight || message.passenger == null) {
            return false;
        }
        return message.passenger.hasBoarded && !message.passenger.isOff && !isGroupOff(message.passenger.group);
    }

    private boolean isGroupOff(int group) {
        for (Passenger passenger : passengers) {
            if (passenger != null && group != 0 && passenger.group == group && passenger.isOff) {
                return true;
            }
        }
        return false;
    }

    // ---- goals and ways ----

    /** The letter of the kind of node to which a bag wants. */
    private char wishOf(Bag bag) {
        Flight flight = flightRead(bag);
        if (flight == null) {
            return 'm';
        }
        if (!bag.isCleared) {
            return 's';
        }
        if (flight.state != 'o') {
            return 'q';
        }
        return flight.time - now > early || flight.chute == null ? 'e' : 'c';
    }

    /** The chute to which a bag would want now; null if its flight has none. */
    private Node chuteFor(Bag bag) {
        Flight flight = flightRead(bag);
        if (flight == null || flight.chute == null || flight.overflow == null) {
            return flight == null ? null : flight.chute;
        }
        boolean isFull = !flight.chute.row.hasRoom() && bag.node != flight.chute;
        return isFull ? flight.overflow : flight.chute;
    }

    /** Whether a node is what a bag wants, whose wish and chute were found before. */
    private static boolean isWished(Node node, Bag bag, char wish, Node chute) {
        if (wish == 'c') {
            return node == chute;
        }
        return node.kind == wish && (wish != 's' || node.screenLevel == bag.passed + 1);
    }

    /** The next node of a bag's way, which then holds the way's cost; null if it has what it wants, or no way. */
    private Node findNext(Bag bag) {
        Node from = bag.node;
        if (from == null) {
            return null;
        }
        char wish = wishOf(bag);
        Node chute = chuteFor(bag);
        if (isWished(from, bag, wish, chute)) {
            return null;
        }
        for (Node node : nodes) {
            if (node != null) {
                boolean isEnd = !node.isFaulty && isWished(node, bag, wish, chute);
                node.cost = isEnd ? node.costToEnter() : NO_WAY;
            }
        }
        spreadCosts();
        return from.bestTarget();
    }

    /** Carries the costs back from the ends over belts until they settle, which takes a round a node at most. */
    private void spreadCosts() {
        boolean hasChanged = true;
        for (int round = 0; hasChanged && round < MOST_NODES; round++) {
            hasChanged = false;
            for (Node node : nodes) {
                if (node != null && node.isBelt() && !node.isFaulty) {
                    Node best = node.bestTarget();
                    if (best != null && node.costToEnter() + best.cost < node.cost) {
                        node.cost = node.costToEnter() + best.cost;
                        hasChanged = true;
                    }
                }
            }
        }
    }

    // ---- a tick ----

    private void goOneTick() {
        now++;
        doTicks();
        moveBags();
        moveRings();
        loadUnits();
        leaveInTime();
    }

    private void doTicks() {
        for (Bag bag : allBags) {
            if (bag != null && bag.node != null && !bag.node.isFaulty && bag.ticksLeft > 0) {
                bag.ticksLeft--;
                if (bag.ticksLeft == 0) {
                    finishTicks(bag, bag.node);
                }
            }
        }
    }

    private static void finishTicks(Bag bag, Node node) {
        if (node.kind == 'm' && bag.tagRead == NOT_READ) {
            bag.tagRead = bag.tag;
        }
        if (node.kind == 's' && node.screenLevel < 3 && !bag.isCleared) {
            if (bag.suspicion < node.screenLevel) {
                bag.isCleared = true;
            } else {
                bag.passed = node.screenLevel;
            }
        }
    }

    private void moveBags() {
        for (Node node : nodes) {
            if (node != null) {
                node.hasLet = false;
                node.hasTaken = false;
            }
        }
        boolean hasMoved = true;
        // each node lets at most one bag go in a tick, so no more rounds than nodes move one
        for (int round = 0; hasMoved && round <= MOST_NODES; round++) {
            hasMoved = false;
            for (Node node : nodes) {
                if (node != null && letsOneGo(node)) {
                    hasMoved = true;
                }
            }
        }
    }

    private boolean letsOneGo(Node node) {
        if (node.hasLet || node.isFaulty) {
            return false;
        }
        int candidates = node.letsOnlyFirst() ? 1 : node.row.count;
        for (int i = 0; i < candidates; i++) {
            Bag bag = node.row.at(i);
            Node next = bag == null || !bag.isDone() ? null : findNext(bag);
            if (bag != null && next != null && next.row.hasRoom() && !next.hasTaken) {
                moveOn(bag, node, next);
                return true;
            }
        }
        return false;
    }

    private void moveOn(Bag bag, Node node, Node next) {
        leave(bag);
        come(bag, next);
        node.hasLet = true;
        next.hasTaken = true;
    }

    // ---- rings ----

    private void moveRings() {
        for (Node node : nodes) {
            if (node != null && followRing(node)) {
                goRound(node);
                ringCount++;
            }
        }
    }

    /** Whether the next nodes lead back to the first one; each of them then knows who goes on, and where. */
    private boolean followRing(Node first) {
        Node node = first;
        for (int step = 0; step < MOST_NODES; step++) {
            if (!isStuck(node)) {
                return false;
            }
            node.goer = firstGoer(node);
            node.onward = node.goer == null ? null : findNext(node.goer);
            if (node.onward == null) {
                return false;
            }
            if (node.onward == first) {
                return true;
            }
            node = node.onward;
        }
        return false;
    }

    private static boolean isStuck(Node node) {
        return !node.isFaulty && !node.hasLet && !node.hasTaken && !node.row.hasRoom();
    }

    /** The first bag that wants elsewhere and has done its ticks; in a row, only the very first can. */
    private Bag firstGoer(Node node) {
        int candidates = node.letsOnlyFirst() ? 1 : node.row.count;
        for (int i = 0; i < candidates; i++) {
            Bag bag = node.row.at(i);
            if (bag != null && bag.isDone() && !isWished(node, bag, wishOf(bag), chuteFor(bag))) {
                return bag;
            }
        }
        return null;
    }

    /** All leave before any comes, since each node of a ring is full. */
    private void goRound(Node first) {
        Node node = first;
        for (int step = 0; step < MOST_NODES && node != null && !node.hasLet; step++) {
            if (node.goer != null) {
                leave(node.goer);
            }
            node.hasLet = true;
            node = node.onward;
        }
        node = first;
        for (int step = 0; step < MOST_NODES && node != null && node.goer != null; step++) {
            Node next = node.onward;
            if (next != null && !next.hasTaken) {
                come(node.goer, next);
                next.hasTaken = true;
            }
            node.goer = null;
            node = next;
        }
    }

    // ---- chutes and flights ----

    private void loadUnits() {
        for (Node node : nodes) {
            if (node != null && node.kind == 'c' && !node.isFaulty) {
                loadOneFrom(node);
            }
        }
    }

    private void loadOneFrom(Node chute) {
        for (int i = 0; i < chute.row.count; i++) {
            Bag bag = chute.row.at(i);
            Unit unit = bag == null ? null : unitFor(bag);
            if (bag != null && unit != null) {
                leave(bag);
                bag.place = 'u';
                bag.unit = unit;
                unit.row.put(bag);
                return;
            }
        }
    }

    private Unit unitFor(Bag bag) {
        Flight flight = flightRead(bag);
        if (flight == null || flight.state != 'o' || !bag.isCleared || !bag.isDone()) {
            return null;
        }
        return flight.roomFor(bag.sort);
    }

    private void leaveInTime() {
        for (Flight flight : flights) {
            if (flight != null && !flight.isOver() && flight.time <= now) {
                int barred = putAside(flight, false);
                if (barred > 0) {
                    flight.state = 'l';
                    flight.time += DELAY_PER_BAG * barred;
                } else {
                    flyOff(flight);
                }
            }
        }
    }

    private void flyOff(Flight flight) {
        flight.state = 'd';
        for (Bag bag : allBags) {
            if (bag != null && bag.unit != null && bag.unit.flight == flight) {
                bag.wasAllowed = isAllowed(bag, flight);
                bag.place = 'f';
            }
        }
    }

    // ---- checks and sums ----

    private int countPlaced(char place) {
        int count = 0;
        for (Bag bag : allBags) {
            if (bag != null && bag.place == place) {
                count++;
            }
        }
        return count;
    }

    private boolean isInOnePlace(Bag bag) {
        int onNodes = 0;
        for (Node node : nodes) {
            if (node != null) {
                onNodes += node.row.timesOf(bag);
            }
        }
        int inUnits = 0;
        for (Flight flight : flights) {
            if (flight != null) {
                inUnits += timesInUnits(bag, flight);
            }
        }
        boolean isOnNode = bag.place == 'n';
        boolean isInUnit = bag.place == 'u' || bag.place == 'f';
        return onNodes == (isOnNode ? 1 : 0) && inUnits == (isInUnit ? 1 : 0);
    }

    private static int timesInUnits(Bag bag, Flight flight) {
        int times = 0;
        for (Unit unit : flight.units) {
            if (unit != null) {
                times += unit.row.timesOf(bag);
            }
        }
        return times;
    }

    private boolean areRoomsKept() {
        for (Node node : nodes) {
            if (node != null && node.row.count > node.row.places.length) {
                return false;
            }
        }
        for (Flight flight : flights) {
            if (flight != null && !areUnitsKept(flight)) {
                return false;
            }
        }
        return true;
    }

    private static boolean areUnitsKept(Flight flight) {
        for (Unit unit : flight.units) {
            if (unit != null && unit.row.count > unit.row.places.length) {
                return false;
            }
        }
        return true;
    }
}
