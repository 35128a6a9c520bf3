import java.util.Arrays;
import java.util.NoSuchElementException;

/**
 * A rebalancer for a store of shards: nodes on a hash ring, targets with bounded loads, moves that
 * take time, leases, forecasts, events, statistics, scripts, undo and snapshots.
 */
public final class ShardRebalancer {
    private static final int NODES = 8;
    private static final int SHARDS = 32;
    private static final int NONE = -1;

    private static final int ABSENT = 0;
    private static final int ACTIVE = 1;
    private static final int DRAINING = 2;
    private static final int DOWN = 3;

    private static final int MAX_WEIGHT = 5;
    private static final int POINTS_PER_WEIGHT = 4;
    private static final int MAX_POINTS_OF_NODE = MAX_WEIGHT * POINTS_PER_WEIGHT;
    private static final int MAX_POINTS = NODES * MAX_POINTS_OF_NODE;
    private static final int LAST_PLACE = 1023;

    private static final int SLACK = 0;
    private static final int BUDGET = 1;
    private static final int LEASE_LENGTH = 2;
    private static final int SETTINGS = 3;
    private static final int MAX_SLACK = 100;
    private static final int MAX_BUDGET = 8;
    private static final int MAX_LEASE_LENGTH = 20;

    private static final int TIME = 0;
    private static final int MOVES_BEGUN = 1;
    private static final int MOVES_ENDED = 2;
    private static final int MOVES_CANCELLED = 3;
    private static final int SIZES_MOVED = 4;
    private static final int UNSERVED_TIME = 5;
    private static final int LEASES_RUN_OUT = 6;
    private static final int STATISTICS = 7;

    private static final int PARTS = 4;
    private static final int MOVE_SHARD = 0;
    private static final int MOVE_SOURCE = 1;
    private static final int MOVE_DESTINATION = 2;
    private static final int MOVE_PROGRESS = 3;
    private static final int MAX_MOVES_TO_A_NODE = 2;

    private static final int EVENT_SHARD = 2;
    private static final int MAX_EVENTS = 30;
    private static final int MOVE_BEGINS = 0;
    private static final int MOVE_ENDS = 1;
    private static final int MOVE_CANCELLED = 2;
    private static final int LEASE_RUNS_OUT = 3;
    private static final int NODE_LEAVES = 4;

    private static final int MAX_TICKS = 50;
    private static final int FORECAST_TICKS = 300;
    private static final int MAX_CHANGES = 6;
    private static final int MAX_TEXT = 60;
    private static final int MAX_COMMANDS = 20;
    private static final int SYNTAX_ERROR = -100;

    private final Store store = new Store();
    private final Store trial = new Store();
    private final Store saved = new Store();
    private final History history = new History();
    private final Script script = new Script();
    private final Placement placement;
    private final Placement trialPlacement;
    private boolean placementIsOld = true;
    private boolean somethingIsSaved = false;

    /** Creates a store without nodes. */
    public ShardRebalancer() {
        int[] ordered = allPointsInOrder();
        placement = new Placement(ordered);
        trialPlacement = new Placement(ordered);
    }

    /** Makes the absent node with the lowest number active and returns it. */
    public int addNode(int weight) throws IllegalArgumentException, IllegalStateException {
        if (!isWeight(weight)) {
            throw new IllegalArgumentException("the weight is out of range");
        }
        int added = store.lowestAbsent();
        if (added == NONE) {
            throw new IllegalStateException("no node is absent");
        }
        beginChange();
        store.enter(added, weight);
        return added;
    }

    /** Makes an active node draining and returns the number of shards that it owns. */
    public int drain(int node) throws IndexOutOfBoundsException, IllegalStateException {
        if (!store.isPresent(node)) {
            throw new IndexOutOfBoundsException("there is no such node");
        }
        if (!store.canDrain(node)) {
            throw new IllegalStateException("the node is not active");
        }
        beginChange();
        store.putState(node, DRAINING);
        return store.ownedShards(node);
    }

    /** Makes an active or draining node down and returns the number of shards that it owns. */
    public int fail(int node) throws IndexOutOfBoundsException, IllegalStateException {
        if (!store.isPresent(node)) {
            throw new IndexOutOfBoundsException("there is no such node");
        }
        if (!store.canFail(node)) {
            throw new IllegalStateException("the node is down");
        }
        beginChange();
        store.putState(node, DOWN);
        return store.ownedShards(node);
    }

    /** Makes a node that is draining or down active and returns its previous state. */
    public int recover(int node) throws IndexOutOfBoundsException, IllegalStateException {
        if (!store.isPresent(node)) {
            throw new IndexOutOfBoundsException("there is no such node");
        }
        if (!store.canRecover(node)) {
            throw new IllegalStateException("the node is active");
        }
        beginChange();
        int previous = store.stateOf(node);
        store.putState(node, ACTIVE);
        return previous;
    }

    /** Sets the weight of a node and returns the previous one. */
    public int setWeight(int node, int weight)
            throws IndexOutOfBoundsException, IllegalArgumentException {
        if (!store.isPresent(node)) {
            throw new IndexOutOfBoundsException("there is no such node");
        }
        if (!isWeight(weight)) {
            throw new IllegalArgumentException("the weight is out of range");
        }
        beginChange();
        int previous = store.weightOf(node);
        store.putWeight(node, weight);
        return previous;
    }

    /** Returns a number about a node. */
    public int node(int node, int what)
            throws IndexOutOfBoundsException, IllegalArgumentException {
        if (!isNode(node)) {
            throw new IndexOutOfBoundsException("there is no such node");
        }
        switch (what) {
            case 0:
                return store.stateOf(node);
            case 1:
                return store.weightOf(node);
            case 2:
                return currentPlacement().capacityOf(node);
            case 3:
                return store.ownedShards(node);
            case 4:
                return currentPlacement().loadOf(node);
            case 5:
                return store.ownedSizes(node);
            case 6:
                return store.moveRows.countWith(MOVE_DESTINATION, node);
            default:
                throw new IllegalArgumentException("what is out of range");
        }
    }

    /** Returns the set of the nodes that are in a state, bit n for node n. */
    public int nodes(int state) throws IllegalArgumentException {
        if (state < ABSENT || state > DOWN) {
            throw new IllegalArgumentException("there is no such state");
        }
        return store.nodesInState(state);
    }

    /** Sets the slack, the budget or the lease length and returns the previous value. */
    public int set(int what, int value) throws IllegalArgumentException {
        if (what < 0 || what >= SETTINGS || !isAllowed(what, value)) {
            throw new IllegalArgumentException("what or the value is out of range");
        }
        beginChange();
        int previous = store.setting[what];
        store.setting[what] = value;
        return previous;
    }

    /** Returns the number of points on the ring. */
    public int points() {
        return currentPlacement().pointCount;
    }

    /** Returns the place, the node or the k of a point. */
    public int point(int i, int what)
            throws IndexOutOfBoundsException, IllegalArgumentException {
        Placement current = currentPlacement();
        if (i < 0 || i >= current.pointCount) {
            throw new IndexOutOfBoundsException("there is no such point");
        }
        int code = current.pointCode(i);
        switch (what) {
            case 0:
                return placeOfPoint(code);
            case 1:
                return nodeOfPoint(code);
            case 2:
                return numberOfPoint(code);
            default:
                throw new IllegalArgumentException("what is out of range");
        }
    }

    /** Returns the number of the first point whose place is not less, or else of the first one. */
    public int successor(int place) throws IllegalArgumentException, NoSuchElementException {
        if (place < 0 || place > LAST_PLACE) {
            throw new IllegalArgumentException("there is no such place");
        }
        Placement current = currentPlacement();
        if (current.pointCount == 0) {
            throw new NoSuchElementException("there are no points");
        }
        return current.pointAfter(place);
    }

    /** Returns a number about a shard. */
    public int shard(int shard, int what)
            throws IndexOutOfBoundsException, IllegalArgumentException {
        if (!isShard(shard)) {
            throw new IndexOutOfBoundsException("there is no such shard");
        }
        switch (what) {
            case 0:
                return placeOfShard(shard);
            case 1:
                return sizeOfShard(shard);
            case 2:
                return currentPlacement().targetOf(shard);
            case 3:
                return store.ownerOf(shard);
            case 4:
                return store.leaseOf(shard);
            case 5:
                return store.isServed(shard) ? 1 : 0;
            case 6:
                return store.moveRows.firstWith(MOVE_SHARD, shard);
            case 7:
                return currentPlacement().skippedFor(shard);
            default:
                throw new IllegalArgumentException("what is out of range");
        }
    }

    /** Returns the node that serves a key. */
    public int route(int key) throws NoSuchElementException {
        int shard = placeOf(key) % SHARDS;
        if (!store.isServed(shard)) {
            throw new NoSuchElementException("the shard is not served");
        }
        return store.ownerOf(shard);
    }

    /** Returns the number of shards that are not owned by their target. */
    public int pending() {
        return currentPlacement().misplacedShards(store);
    }

    /** Returns the number of shards whose target would change with another weight of a node. */
    public int changedIf(int node, int weight)
            throws IndexOutOfBoundsException, IllegalArgumentException, IllegalStateException {
        if (!isNode(node)) {
            throw new IndexOutOfBoundsException("there is no such node");
        }
        if (weight != 0 && !isWeight(weight)) {
            throw new IllegalArgumentException("the weight is out of range");
        }
        if (store.stateOf(node) != ACTIVE) {
            throw new IllegalStateException("the node is not active");
        }
        trial.copyFrom(store);
        if (weight == 0) {
            trial.leave(node);
        } else {
            trial.putWeight(node, weight);
        }
        trialPlacement.derive(trial);
        return trialPlacement.differingTargets(currentPlacement());
    }

    /** Returns the least slack with which no node is skipped for any shard. */
    public int leastSlack() throws NoSuchElementException, IllegalStateException {
        Placement current = currentPlacement();
        if (current.pointCount == 0) {
            throw new IllegalStateException("no node is active");
        }
        int slack = current.leastSlackWithoutSkips(store);
        if (slack == NONE) {
            throw new NoSuchElementException("there is no such slack");
        }
        return slack;
    }

    /** Returns the greatest quotient of owned shards and capacity of an active node. */
    public double greatestFill() throws ArithmeticException {
        Placement current = currentPlacement();
        if (current.pointCount == 0) {
            throw new ArithmeticException("no node is active");
        }
        double greatest = 0;
        for (int n = 0; n < NODES; n++) {
            int capacity = current.capacityOf(n);
            if (capacity > 0) {
                double fill = (double) store.ownedShards(n) / capacity;
                greatest = fill > greatest ? fill : greatest;
            }
        }
        return greatest;
    }

    /** Makes 1 to 50 ticks and returns the time then. */
    public int tick(int ticks) throws IllegalArgumentException {
        if (!isTickCount(ticks)) {
            throw new IllegalArgumentException("the number is out of range");
        }
        Placement current = currentPlacement();
        beginChange();
        Ticker.makeTicks(store, current, ticks);
        return store.time();
    }

    /** Returns the number of moves. */
    public int moves() {
        return store.moveRows.count;
    }

    /** Returns the shard, the source, the destination or the progress of a move. */
    public int move(int i, int what)
            throws IndexOutOfBoundsException, IllegalArgumentException {
        if (!store.moveRows.has(i)) {
            throw new IndexOutOfBoundsException("there is no such move");
        }
        if (!isPart(what)) {
            throw new IllegalArgumentException("what is out of range");
        }
        return store.moveRows.part(i, what);
    }

    /** Returns after how many ticks pending would be 0 for the first time. */
    public int forecast() throws NoSuchElementException {
        Placement current = currentPlacement();
        trial.copyFrom(store);
        int ticks = Ticker.ticksUntilNoneIsMisplaced(trial, current);
        if (ticks == NONE) {
            throw new NoSuchElementException("it would not be so within 300 ticks");
        }
        return ticks;
    }

    /** Returns a statistic. */
    public int statistic(int what) throws IllegalArgumentException {
        if (what < 0 || what >= STATISTICS) {
            throw new IllegalArgumentException("what is out of range");
        }
        return store.statistic[what];
    }

    /** Returns the number of events that are kept. */
    public int events() {
        return store.eventRows.count;
    }

    /** Returns the time, the kind, the shard or the node of an event. */
    public int event(int i, int what)
            throws IndexOutOfBoundsException, IllegalArgumentException {
        if (!store.eventRows.has(i)) {
            throw new IndexOutOfBoundsException("there is no such event");
        }
        if (!isPart(what)) {
            throw new IllegalArgumentException("what is out of range");
        }
        return store.eventRows.part(i, what);
    }

    /** Removes the events of a shard from those that are kept and returns their number. */
    public int forget(int shard) throws IndexOutOfBoundsException {
        if (!isShard(shard)) {
            throw new IndexOutOfBoundsException("there is no such shard");
        }
        beginChange();
        return store.eventRows.removeWith(EVENT_SHARD, shard);
    }

    /** Appends a character to the input buffer and returns the number of characters in it. */
    public int feed(char letter) throws IllegalStateException {
        if (script.isFull()) {
            throw new IllegalStateException("the buffer is full");
        }
        return script.append(letter);
    }

    /** Performs the input buffer as a script; returns the number of commands or an error code. */
    public int perform() throws UnsupportedOperationException {
        int errorPosition = script.parse();
        script.empty();
        if (errorPosition != NONE) {
            return SYNTAX_ERROR - errorPosition;
        }
        trial.copyFrom(store);
        for (int c = 0; c < script.commandCount && c < MAX_COMMANDS; c++) {
            if (!obey(script.letter[c], script.first[c], script.second[c])) {
                throw new UnsupportedOperationException("a command cannot be performed");
            }
        }
        beginChange();
        store.copyFrom(trial);
        return script.commandCount;
    }

    /** Takes back the latest change and returns how many can still be taken back. */
    public int undo() throws IllegalStateException {
        if (history.count == 0) {
            throw new IllegalStateException("there is no change to take back");
        }
        history.takeBack(store);
        placementIsOld = true;
        return history.count;
    }

    /** Saves everything but the input buffer and the history; returns the number of nodes. */
    public int save() {
        saved.copyFrom(store);
        somethingIsSaved = true;
        return store.presentNodes();
    }

    /** Restores what was saved, without a history; returns the number of nodes. */
    public int restore() throws IllegalStateException {
        if (!somethingIsSaved) {
            throw new IllegalStateException("nothing was saved");
        }
        store.copyFrom(saved);
        history.clear();
        placementIsOld = true;
        return store.presentNodes();
    }

    private void beginChange() {
        history.keep(store);
        placementIsOld = true;
    }

    private Placement currentPlacement() {
        if (placementIsOld) {
            placement.derive(store);
            placementIsOld = false;
        }
        return placement;
    }

    /** Performs a command on the trial store, so that a later failure has nothing to repair. */
    private boolean obey(int letter, int number, int weight) {
        switch (letter) {
            case 'n':
                return trial.tryToEnter(number);
            case 'd':
                return trial.canDrain(number) && trial.putState(number, DRAINING);
            case 'f':
                return trial.canFail(number) && trial.putState(number, DOWN);
            case 'r':
                return trial.canRecover(number) && trial.putState(number, ACTIVE);
            case 'w':
                return trial.isPresent(number) && isWeight(weight)
                        && trial.putWeight(number, weight);
            case 't':
                if (!isTickCount(number)) {
                    return false;
                }
                trialPlacement.derive(trial);
                Ticker.makeTicks(trial, trialPlacement, number);
                return true;
            default:
                return false;
        }
    }

    private static boolean isNode(int node) {
        return node >= 0 && node < NODES;
    }

    private static boolean isShard(int shard) {
        return shard >= 0 && shard < SHARDS;
    }

    private static boolean isWeight(int weight) {
        return weight >= 1 && weight <= MAX_WEIGHT;
    }

    private static boolean isAllowed(int setting, int value) {
        switch (setting) {
            case SLACK:
                return value >= 0 && value <= MAX_SLACK;
            case BUDGET:
                return value >= 1 && value <= MAX_BUDGET;
            case LEASE_LENGTH:
                return value >= 1 && value <= MAX_LEASE_LENGTH;
            default:
                return false;
        }
    }

    private static boolean isTickCount(int ticks) {
        return ticks >= 1 && ticks <= MAX_TICKS;
    }

    private static boolean isPart(int what) {
        return what >= 0 && what < PARTS;
    }

    private static int placeOf(int a) {
        int x = a * -1640531527;
        x ^= x >>> 15;
        x *= -2048144789;
        x ^= x >>> 13;
        return x & LAST_PLACE;
    }

    private static int placeOfShard(int shard) {
        return placeOf(1000 + shard);
    }

    private static int sizeOfShard(int shard) {
        return 1 + placeOf(2000 + shard) % 9;
    }

    private static int codeOfPoint(int node, int number) {
        // Ordered codes are ordered points: place first, then node, then number.
        return placeOf(64 * node + number) << 8 | node << 5 | number;
    }

    private static int placeOfPoint(int code) {
        return code >> 8;
    }

    private static int nodeOfPoint(int code) {
        return code >> 5 & 7;
    }

    private static int numberOfPoint(int code) {
        return code & 31;
    }

    /** Returns the points that all nodes would have with the greatest weight, in ring order. */
    private static int[] allPointsInOrder() {
        int[] codes = new int[MAX_POINTS];
        for (int i = 0; i < MAX_POINTS; i++) {
            int code = codeOfPoint(i / MAX_POINTS_OF_NODE, i % MAX_POINTS_OF_NODE);
            int at = i;
            while (at > 0 && codes[at - 1] > code) {
                codes[at] = codes[at - 1];
                at--;
            }
            codes[at] = code;
        }
        return codes;
    }

    private static int capacityFor(int weight, int slack, int totalWeight) {
        int divisor = 100 * totalWeight;
        if (divisor <= 0) {
            return 0;
        }
        return 1 + SHARDS * weight * (100 + slack) / divisor;
    }

    /** Up to a fixed number of rows with four parts each: the moves, or the events. */
    private static final class Rows {
        private final int limit;
        private final int[] cells;
        int count = 0;

        Rows(int limit) {
            this.limit = Math.max(limit, 1);
            cells = new int[this.limit * PARTS];
        }

        void copyFrom(Rows other) {
            count = Math.min(other.count, limit);
            System.arraycopy(other.cells, 0, cells, 0, count * PARTS);
        }

        boolean has(int row) {
            return row >= 0 && row < count;
        }

        int part(int row, int what) {
            if (row < 0 || row >= count || what < 0 || what >= PARTS) {
                return NONE;
            }
            return cells[row * PARTS + what];
        }

        void putPart(int row, int what, int value) {
            if (row >= 0 && row < count && what >= 0 && what < PARTS) {
                cells[row * PARTS + what] = value;
            }
        }

        /** Appends a row; when all are taken, the oldest one makes room. */
        void append(int part0, int part1, int part2, int part3) {
            if (count >= limit) {
                System.arraycopy(cells, PARTS, cells, 0, (limit - 1) * PARTS);
                count = limit - 1;
            }
            int cell = count * PARTS;
            cells[cell] = part0;
            cells[cell + 1] = part1;
            cells[cell + 2] = part2;
            cells[cell + 3] = part3;
            count++;
        }

        void remove(int row) {
            if (row >= 0 && row < count) {
                int next = (row + 1) * PARTS;
                System.arraycopy(cells, next, cells, row * PARTS, count * PARTS - next);
                count--;
            }
        }

        int firstWith(int what, int value) {
            for (int row = 0; row < count; row++) {
                if (part(row, what) == value) {
                    return row;
                }
            }
            return NONE;
        }

        int countWith(int what, int value) {
            int found = 0;
            for (int row = 0; row < count; row++) {
                if (part(row, what) == value) {
                    found++;
                }
            }
            return found;
        }

        int removeWith(int what, int value) {
            int before = count;
            for (int row = before - 1; row >= 0; row--) {
                if (part(row, what) == value) {
                    remove(row);
                }
            }
            return before - count;
        }
    }

    /** All that a change can change: nodes, settings, owners, moves, events and statistics. */
    private static final class Store {
        private final int[] nodeState = new int[NODES];
        private final int[] weight = new int[NODES];
        private final int[] owner = new int[SHARDS];
        private final int[] lease = new int[SHARDS];
        final int[] setting = {25, 3, 5};
        final int[] statistic = new int[STATISTICS];
        final Rows moveRows = new Rows(MAX_BUDGET);
        final Rows eventRows = new Rows(MAX_EVENTS);

        Store() {
            Arrays.fill(owner, NONE);
            Arrays.fill(lease, NONE);
        }

        void copyFrom(Store other) {
            System.arraycopy(other.nodeState, 0, nodeState, 0, NODES);
            System.arraycopy(other.weight, 0, weight, 0, NODES);
            System.arraycopy(other.owner, 0, owner, 0, SHARDS);
            System.arraycopy(other.lease, 0, lease, 0, SHARDS);
            System.arraycopy(other.setting, 0, setting, 0, SETTINGS);
            System.arraycopy(other.statistic, 0, statistic, 0, STATISTICS);
            moveRows.copyFrom(other.moveRows);
            eventRows.copyFrom(other.eventRows);
        }

        int time() {
            return statistic[TIME];
        }

        int stateOf(int node) {
            return isNode(node) ? nodeState[node] : ABSENT;
        }

        int weightOf(int node) {
            return isNode(node) ? weight[node] : 0;
        }

        boolean isPresent(int node) {
            return stateOf(node) != ABSENT;
        }

        boolean canDrain(int node) {
            return stateOf(node) == ACTIVE;
        }

        boolean canFail(int node) {
            return stateOf(node) == ACTIVE || stateOf(node) == DRAINING;
        }

        boolean canRecover(int node) {
            return stateOf(node) == DRAINING || stateOf(node) == DOWN;
        }

        int lowestAbsent() {
            for (int n = 0; n < NODES; n++) {
                if (nodeState[n] == ABSENT) {
                    return n;
                }
            }
            return NONE;
        }

        int presentNodes() {
            return NODES - Integer.bitCount(nodesInState(ABSENT));
        }

        int nodesInState(int state) {
            int found = 0;
            for (int n = 0; n < NODES; n++) {
                if (nodeState[n] == state) {
                    found |= 1 << n;
                }
            }
            return found;
        }

        boolean putState(int node, int state) {
            if (!isNode(node)) {
                return false;
            }
            nodeState[node] = state;
            return true;
        }

        boolean putWeight(int node, int newWeight) {
            if (!isNode(node)) {
                return false;
            }
            weight[node] = newWeight;
            return true;
        }

        boolean enter(int node, int newWeight) {
            return putState(node, ACTIVE) && putWeight(node, newWeight);
        }

        boolean tryToEnter(int newWeight) {
            return isWeight(newWeight) && enter(lowestAbsent(), newWeight);
        }

        void leave(int node) {
            putState(node, ABSENT);
            putWeight(node, 0);
        }

        int ownerOf(int shard) {
            return isShard(shard) ? owner[shard] : NONE;
        }

        int leaseOf(int shard) {
            return isShard(shard) ? lease[shard] : NONE;
        }

        boolean isServed(int shard) {
            int state = stateOf(ownerOf(shard));
            return state == ACTIVE || state == DRAINING;
        }

        int ownedShards(int node) {
            int found = 0;
            for (int s = 0; s < SHARDS; s++) {
                if (owner[s] == node) {
                    found++;
                }
            }
            return found;
        }

        int ownedSizes(int node) {
            int sum = 0;
            for (int s = 0; s < SHARDS; s++) {
                if (owner[s] == node) {
                    sum += sizeOfShard(s);
                }
            }
            return sum;
        }

        int unservedShards() {
            int found = 0;
            for (int s = 0; s < SHARDS; s++) {
                if (!isServed(s)) {
                    found++;
                }
            }
            return found;
        }

        /** Makes a node the owner of a shard, or keeps it so, with a new lease. */
        void grant(int shard, int node) {
            if (isShard(shard)) {
                owner[shard] = node;
                lease[shard] = time() + setting[LEASE_LENGTH];
            }
        }

        void release(int shard) {
            if (isShard(shard)) {
                owner[shard] = NONE;
                lease[shard] = NONE;
            }
        }

        void note(int kind, int shard, int node) {
            eventRows.append(time(), kind, shard, node);
        }
    }

    /** The ring and the targets that follow from the active nodes, their weights and the slack. */
    private static final class Placement {
        private final int[] ordered;
        private final int[] ring = new int[MAX_POINTS];
        private final int[] capacity = new int[NODES];
        private final int[] load = new int[NODES];
        private final int[] wanted = new int[NODES];
        private final int[] target = new int[SHARDS];
        private final int[] skipped = new int[SHARDS];
        private int totalWeight = 0;
        int pointCount = 0;

        Placement(int[] ordered) {
            this.ordered = ordered;
        }

        void derive(Store store) {
            layRing(store);
            setCapacities(store);
            Arrays.fill(load, 0);
            for (int s = 0; s < SHARDS; s++) {
                setTarget(s);
            }
        }

        int pointCode(int i) {
            return i >= 0 && i < pointCount ? ring[i] : 0;
        }

        int capacityOf(int node) {
            return isNode(node) ? capacity[node] : 0;
        }

        int loadOf(int node) {
            return isNode(node) ? load[node] : 0;
        }

        int targetOf(int shard) {
            return isShard(shard) ? target[shard] : NONE;
        }

        int skippedFor(int shard) {
            return isShard(shard) ? skipped[shard] : 0;
        }

        /** Returns the number of the successor of a place, 0 without points. */
        int pointAfter(int place) {
            int before = 0;
            // Halving steps find how many points lie before the place: up to 255, more than all.
            for (int step = 128; step > 0; step /= 2) {
                int next = before + step;
                if (next <= pointCount && placeOfPoint(pointCode(next - 1)) < place) {
                    before = next;
                }
            }
            return before < pointCount ? before : 0;
        }

        int misplacedShards(Store store) {
            int found = 0;
            for (int s = 0; s < SHARDS; s++) {
                int owner = store.ownerOf(s);
                if (owner == NONE || owner != target[s]) {
                    found++;
                }
            }
            return found;
        }

        int differingTargets(Placement other) {
            int found = 0;
            for (int s = 0; s < SHARDS; s++) {
                if (target[s] != other.target[s]) {
                    found++;
                }
            }
            return found;
        }

        int leastSlackWithoutSkips(Store store) {
            // No node is skipped just if each has room for all shards that come to it first.
            Arrays.fill(wanted, 0);
            for (int s = 0; s < SHARDS; s++) {
                wanted[nodeOfPoint(pointCode(pointAfter(placeOfShard(s))))]++;
            }
            for (int slack = 0; slack <= MAX_SLACK; slack++) {
                if (wantedFits(store, slack)) {
                    return slack;
                }
            }
            return NONE;
        }

        private boolean wantedFits(Store store, int slack) {
            for (int n = 0; n < NODES; n++) {
                if (wanted[n] > capacityFor(store.weightOf(n), slack, totalWeight)) {
                    return false;
                }
            }
            return true;
        }

        private void layRing(Store store) {
            pointCount = 0;
            for (int i = 0; i < MAX_POINTS && i < ordered.length; i++) {
                int code = ordered[i];
                int node = nodeOfPoint(code);
                if (pointCount < MAX_POINTS && store.stateOf(node) == ACTIVE
                        && numberOfPoint(code) < POINTS_PER_WEIGHT * store.weightOf(node)) {
                    ring[pointCount] = code;
                    pointCount++;
                }
            }
        }

        private void setCapacities(Store store) {
            totalWeight = pointCount / POINTS_PER_WEIGHT;
            for (int n = 0; n < NODES; n++) {
                capacity[n] = store.stateOf(n) == ACTIVE
                        ? capacityFor(store.weightOf(n), store.setting[SLACK], totalWeight) : 0;
            }
        }

        private void setTarget(int shard) {
            int chosen = NONE;
            int passed = 0;
            int at = pointAfter(placeOfShard(shard));
            for (int i = 0; i < pointCount && chosen == NONE; i++) {
                int node = nodeOfPoint(pointCode(at));
                if (load[node] < capacity[node]) {
                    chosen = node;
                    load[node]++;
                } else {
                    passed |= 1 << node;
                }
                at = at + 1 < pointCount ? at + 1 : 0;
            }
            target[shard] = chosen;
            skipped[shard] = passed;
        }
    }

    /** What is done in a tick. No tick changes which nodes are active, so the targets stay. */
    private static final class Ticker {
        static void makeTicks(Store store, Placement targets, int ticks) {
            for (int i = 0; i < ticks; i++) {
                store.statistic[TIME]++;
                attendToLeases(store);
                advanceMoves(store, targets);
                beginMoves(store, targets);
                dismissEmptyNodes(store);
                store.statistic[UNSERVED_TIME] += store.unservedShards();
            }
        }

        static int ticksUntilNoneIsMisplaced(Store store, Placement targets) {
            if (targets.misplacedShards(store) == 0) {
                return 0;
            }
            for (int ticks = 1; ticks <= FORECAST_TICKS; ticks++) {
                makeTicks(store, targets, 1);
                if (targets.misplacedShards(store) == 0) {
                    return ticks;
                }
            }
            return NONE;
        }

        private static void attendToLeases(Store store) {
            for (int s = 0; s < SHARDS; s++) {
                int owner = store.ownerOf(s);
                if (owner != NONE && store.isServed(s)) {
                    store.grant(s, owner);
                } else if (owner != NONE && store.leaseOf(s) <= store.time()) {
                    store.release(s);
                    store.statistic[LEASES_RUN_OUT]++;
                    store.note(LEASE_RUNS_OUT, s, owner);
                }
            }
        }

        private static void advanceMoves(Store store, Placement targets) {
            Rows moves = store.moveRows;
            int all = moves.count;
            int at = 0;
            for (int i = 0; i < all; i++) {
                if (mustCancel(store, targets, at)) {
                    cancelMove(store, at);
                } else if (moves.part(at, MOVE_PROGRESS) + 1
                        >= sizeOfShard(moves.part(at, MOVE_SHARD))) {
                    endMove(store, at);
                } else {
                    moves.putPart(at, MOVE_PROGRESS, moves.part(at, MOVE_PROGRESS) + 1);
                    at++;
                }
            }
        }

        private static boolean mustCancel(Store store, Placement targets, int move) {
            int shard = store.moveRows.part(move, MOVE_SHARD);
            int source = store.moveRows.part(move, MOVE_SOURCE);
            if (store.moveRows.part(move, MOVE_DESTINATION) != targets.targetOf(shard)) {
                return true;
            }
            return source != NONE
                    && (source != store.ownerOf(shard) || store.stateOf(source) == DOWN);
        }

        private static void cancelMove(Store store, int move) {
            int shard = store.moveRows.part(move, MOVE_SHARD);
            int destination = store.moveRows.part(move, MOVE_DESTINATION);
            store.statistic[MOVES_CANCELLED]++;
            store.note(MOVE_CANCELLED, shard, destination);
            store.moveRows.remove(move);
        }

        private static void endMove(Store store, int move) {
            int shard = store.moveRows.part(move, MOVE_SHARD);
            int destination = store.moveRows.part(move, MOVE_DESTINATION);
            store.grant(shard, destination);
            store.statistic[MOVES_ENDED]++;
            store.statistic[SIZES_MOVED] += sizeOfShard(shard);
            store.note(MOVE_ENDS, shard, destination);
            store.moveRows.remove(move);
        }

        private static void beginMoves(Store store, Placement targets) {
            int budget = store.setting[BUDGET];
            for (int open = store.moveRows.count; open < budget; open++) {
                int shard = bestCandidate(store, targets);
                if (shard == NONE) {
                    return;
                }
                int destination = targets.targetOf(shard);
                store.moveRows.append(shard, store.ownerOf(shard), destination, 0);
                store.statistic[MOVES_BEGUN]++;
                store.note(MOVE_BEGINS, shard, destination);
            }
        }

        private static int bestCandidate(Store store, Placement targets) {
            int best = NONE;
            int bestRank = 0;
            for (int s = 0; s < SHARDS; s++) {
                if (isCandidate(store, targets, s)) {
                    int rank = rankOf(store, s);
                    if (best == NONE || rank < bestRank) {
                        best = s;
                        bestRank = rank;
                    }
                }
            }
            return best;
        }

        private static boolean isCandidate(Store store, Placement targets, int shard) {
            int owner = store.ownerOf(shard);
            int target = targets.targetOf(shard);
            return target != NONE && target != owner
                    && store.stateOf(owner) != DOWN
                    && store.moveRows.firstWith(MOVE_SHARD, shard) == NONE
                    && store.moveRows.countWith(MOVE_DESTINATION, target) < MAX_MOVES_TO_A_NODE;
        }

        /** Ranks by need and then by size: the lowest rank comes first. */
        private static int rankOf(Store store, int shard) {
            int owner = store.ownerOf(shard);
            int need = 2;
            if (owner == NONE) {
                need = 0;
            } else if (store.stateOf(owner) == DRAINING) {
                need = 1;
            }
            return need * 10 + sizeOfShard(shard);
        }

        private static void dismissEmptyNodes(Store store) {
            for (int n = 0; n < NODES; n++) {
                if (store.stateOf(n) == DRAINING && store.ownedShards(n) == 0) {
                    store.leave(n);
                    store.note(NODE_LEAVES, NONE, n);
                }
            }
        }
    }

    /** The stores as they were before the latest changes. */
    private static final class History {
        private final Store[] kept = new Store[MAX_CHANGES];
        private int next = 0;
        int count = 0;

        History() {
            for (int i = 0; i < MAX_CHANGES; i++) {
                kept[i] = new Store();
            }
        }

        void keep(Store store) {
            Store room = at(next);
            if (room != null) {
                room.copyFrom(store);
                next = next + 1 < MAX_CHANGES ? next + 1 : 0;
                count = count < MAX_CHANGES ? count + 1 : MAX_CHANGES;
            }
        }

        void takeBack(Store store) {
            int latest = next > 0 ? next - 1 : MAX_CHANGES - 1;
            Store before = at(latest);
            if (count > 0 && before != null) {
                store.copyFrom(before);
                next = latest;
                count--;
            }
        }

        void clear() {
            count = 0;
        }

        private Store at(int i) {
            return i >= 0 && i < MAX_CHANGES ? kept[i] : null;
        }
    }

    /** The input buffer, and the commands that were read from it last. */
    private static final class Script {
        private final char[] text = new char[MAX_TEXT];
        private int length = 0;
        private int at = 0;
        final int[] letter = new int[MAX_COMMANDS];
        final int[] first = new int[MAX_COMMANDS];
        final int[] second = new int[MAX_COMMANDS];
        int commandCount = 0;

        boolean isFull() {
            return length >= MAX_TEXT;
        }

        int append(char added) {
            if (length < MAX_TEXT) {
                text[length] = added;
                length++;
            }
            return length;
        }

        void empty() {
            length = 0;
        }

        /** Reads the commands and returns the error position, or NONE if the text is a script. */
        int parse() {
            at = 0;
            commandCount = 0;
            // A command has three characters at the least, so a full buffer holds no more of them.
            for (int i = 0; i < MAX_COMMANDS; i++) {
                if (!readCommand()) {
                    return at;
                }
                if (at >= length) {
                    return NONE;
                }
            }
            return at;
        }

        private boolean readCommand() {
            int name = current();
            if (!isCommandLetter(name)) {
                return false;
            }
            at++;
            int number = readNumber();
            if (number == NONE) {
                return false;
            }
            int weight = 0;
            if (name == 'w') {
                weight = accept('=') ? readNumber() : NONE;
            }
            if (weight == NONE || !accept(';')) {
                return false;
            }
            addCommand(name, number, weight);
            return true;
        }

        private void addCommand(int name, int number, int weight) {
            if (commandCount < MAX_COMMANDS) {
                letter[commandCount] = name;
                first[commandCount] = number;
                second[commandCount] = weight;
                commandCount++;
            }
        }

        /** Returns the next character, or NONE at the end of the text. */
        private int current() {
            return at >= 0 && at < length ? text[at] : NONE;
        }

        private boolean accept(char wanted) {
            if (current() != wanted) {
                return false;
            }
            at++;
            return true;
        }

        /** Reads one or two digits; returns NONE if there is none. */
        private int readNumber() {
            int number = readDigit();
            if (number == NONE) {
                return NONE;
            }
            int digit = readDigit();
            return digit == NONE ? number : number * 10 + digit;
        }

        private int readDigit() {
            int sign = current();
            if (sign < '0' || sign > '9') {
                return NONE;
            }
            at++;
            return sign - '0';
        }

        private static boolean isCommandLetter(int sign) {
            return sign == 'n' || sign == 'd' || sign == 'f' || sign == 'r'
                    || sign == 'w' || sign == 't';
        }
    }
}
