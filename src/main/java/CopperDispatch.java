/**
 * A power grid, run by the minute and billed by the hour. The face checks what it is told and hands it on: the net
 * holds lines and flows, the park what makes, uses and stores, the market the hour to come, the balance an island's
 * minute.
 */
public final class CopperDispatch {
    public static final int NONE = -1;
    public static final int IN = 0, TRIPPED = 1, DEAD = 2;
    public static final int OFF = 0, STARTING = 1, ON = 2;
    public static final int FEEDER = 0, PLANT = 1, WHEEL = 2, STORE = 3;

    private static final int NODES = 8;
    private static final int MAX_LINES = 12;
    private static final int MAX_PLANTS = 8;
    private static final int MAX_FEEDERS = 10;
    private static final int MAX_WHEELS = 4;
    private static final int MAX_STORES = 3;
    private static final int CREWS = 2;
    private static final int CLASSES = 2;
    private static final int MAX_STEPS = 3;
    private static final int HOUR = 10;
    private static final int MAX_MINUTES = 400;
    private static final int MAX_HOURS = 40;
    private static final int MAX_PRICE = 999;
    private static final int SHED_PRICE = 1000;
    private static final int WHOLE = 100;
    private static final int DAMAGED = 10;
    private static final int FAR = 1000;

    private final Net net = new Net();
    private final Market market = new Market();
    private final Balance balance = new Balance();
    private final Park park = balance.park;
    private final int[] prices = new int[NODES];
    private final int[][] priceSums = new int[NODES][MAX_HOURS];
    private final int[] excess = new int[NODES];
    private int passed = 0;

    public CopperDispatch() {
        for (int node = 0; node < NODES; node++) {
            prices[node] = NONE;
        }
    }

    // ---- the net

    public int line(int one, int other, int length, int limit)
            throws IndexOutOfBoundsException, IllegalArgumentException, IllegalStateException {
        if (!isNode(one) || !isNode(other)) {
            throw new IndexOutOfBoundsException("no such node");
        }
        if (one == other || !isBetween(length, 1, 9) || !isBetween(limit, 1, 99)) {
            throw new IllegalArgumentException("both nodes are the same, or length or limit is out of range");
        }
        if (net.count >= MAX_LINES) {
            throw new IllegalStateException("there are 12 lines");
        }
        int number = net.count;
        net.lines[number].layOut(one, other, length, limit);
        net.count++;
        return number;
    }

    public int switchLine(int line, boolean isIn) throws IndexOutOfBoundsException, IllegalStateException {
        if (!net.has(line)) {
            throw new IndexOutOfBoundsException("no such line");
        }
        Line switched = net.lines[line];
        if (isIn && (switched.isDamaged || switched.crew != NONE)) {
            throw new IllegalStateException("the line is damaged, or there is a permit on it");
        }
        int before = switched.state;
        switched.state = isIn ? IN : DEAD;
        return before;
    }

    public boolean storm(int line) throws IndexOutOfBoundsException {
        if (!net.has(line)) {
            throw new IndexOutOfBoundsException("no such line");
        }
        Line hit = net.lines[line];
        boolean before = hit.isDamaged;
        hit.isDamaged = true;
        if (hit.state == IN) {
            hit.state = TRIPPED;
        }
        return before;
    }

    public int permit(int crew, int line, int minutes)
            throws IndexOutOfBoundsException, IllegalArgumentException, IllegalStateException {
        if (!isBetween(crew, 0, CREWS - 1) || !net.has(line)) {
            throw new IndexOutOfBoundsException("no such crew or line");
        }
        if (!isBetween(minutes, 1, 60)) {
            throw new IllegalArgumentException("minutes is out of range");
        }
        Line worked = net.lines[line];
        if (net.permitOf(crew) != NONE || worked.state != DEAD || worked.crew != NONE) {
            throw new IllegalStateException("the crew has a permit, or the line is not DEAD or has one on it");
        }
        worked.crew = crew;
        worked.toGo = minutes;
        int other = CREWS - 1 - crew;
        return net.permitOf(other) == NONE ? NONE : other;
    }

    public int giveBack(int crew) throws IndexOutOfBoundsException, IllegalStateException {
        if (!isBetween(crew, 0, CREWS - 1)) {
            throw new IndexOutOfBoundsException("no such crew");
        }
        int line = net.permitOf(crew);
        if (!net.has(line) || net.lines[line].toGo > 0) {
            throw new IllegalStateException("the crew has no permit, or works");
        }
        net.lines[line].crew = NONE;
        return line;
    }

    public int stateOf(int line) throws IndexOutOfBoundsException {
        if (!net.has(line)) {
            throw new IndexOutOfBoundsException("no such line");
        }
        return net.lines[line].state + (net.lines[line].isDamaged ? DAMAGED : 0);
    }

    public float heat(int line) throws IndexOutOfBoundsException {
        if (!net.has(line)) {
            throw new IndexOutOfBoundsException("no such line");
        }
        return net.lines[line].heat;
    }

    public int flow(int line) throws IndexOutOfBoundsException {
        if (!net.has(line)) {
            throw new IndexOutOfBoundsException("no such line");
        }
        return net.lines[line].flow;
    }

    public int flowAnew(int line) throws IndexOutOfBoundsException {
        if (!net.has(line)) {
            throw new IndexOutOfBoundsException("no such line");
        }
        park.countExcess(excess);
        net.pairNodes(excess);
        return net.sumOfWays(line);
    }

    public int island(int node) throws IndexOutOfBoundsException {
        if (!isNode(node)) {
            throw new IndexOutOfBoundsException("no such node");
        }
        net.findIslands();
        return net.lowest[node];
    }

    public int price(int node) throws IndexOutOfBoundsException {
        if (!isNode(node)) {
            throw new IndexOutOfBoundsException("no such node");
        }
        return prices[node];
    }

    // ---- plants

    public int plant(int node, int least, int most, int start, boolean isBlack)
            throws IndexOutOfBoundsException, IllegalArgumentException, IllegalStateException {
        if (!isNode(node)) {
            throw new IndexOutOfBoundsException("no such node");
        }
        if (!isBetween(least, 0, 50) || !isBetween(most, Math.max(1, least), 99) || !isBetween(start, 0, 30)) {
            throw new IllegalArgumentException("least, most or start is out of range");
        }
        if (park.plantCount >= MAX_PLANTS) {
            throw new IllegalStateException("there are 8 plants");
        }
        int number = park.plantCount;
        park.plants[number].setUp(node, least, most, start, isBlack);
        park.plantCount++;
        return number;
    }

    public int start(int plant) throws IndexOutOfBoundsException, IllegalStateException {
        if (!park.hasPlant(plant)) {
            throw new IndexOutOfBoundsException("no such plant");
        }
        Plant started = park.plants[plant];
        net.findIslands();
        park.placeUnits(net.lowest);
        if (started.state != OFF || !started.isBlack && !park.isLive(started.island)) {
            throw new IllegalStateException("the plant is not OFF, or cannot start in the dark");
        }
        started.state = started.startTime == 0 ? ON : STARTING;
        started.toGo = started.startTime;
        return started.startTime;
    }

    public int stop(int plant) throws IndexOutOfBoundsException {
        if (!park.hasPlant(plant)) {
            throw new IndexOutOfBoundsException("no such plant");
        }
        int before = park.plants[plant].state;
        park.plants[plant].state = OFF;
        return before;
    }

    public int plantState(int plant) throws IndexOutOfBoundsException {
        if (!park.hasPlant(plant)) {
            throw new IndexOutOfBoundsException("no such plant");
        }
        return park.plants[plant].state;
    }

    public int base(int plant) throws IndexOutOfBoundsException {
        if (!park.hasPlant(plant)) {
            throw new IndexOutOfBoundsException("no such plant");
        }
        return park.plants[plant].base;
    }

    // ---- market and reserves

    public int offer(int plant, int price, int amount)
            throws IndexOutOfBoundsException, IllegalArgumentException, IllegalStateException {
        if (!park.hasPlant(plant)) {
            throw new IndexOutOfBoundsException("no such plant");
        }
        if (!isBetween(price, 0, MAX_PRICE) || !isBetween(amount, 1, 99)) {
            throw new IllegalArgumentException("price or amount is out of range");
        }
        Plant offering = park.plants[plant];
        boolean isFull = offering.steps >= MAX_STEPS || offering.offered() + amount > offering.most;
        if (isFull || price < offering.lastPrice()) {
            throw new IllegalStateException("3 steps, a price below the last one's, or more than the greatest load");
        }
        offering.stepPrices[offering.steps] = price;
        offering.stepAmounts[offering.steps] = amount;
        offering.steps++;
        return offering.steps;
    }

    public int withdraw(int plant) throws IndexOutOfBoundsException {
        if (!park.hasPlant(plant)) {
            throw new IndexOutOfBoundsException("no such plant");
        }
        int before = park.plants[plant].steps;
        park.plants[plant].steps = 0;
        return before;
    }

    public int clear(int demand) throws IllegalArgumentException {
        if (!isBetween(demand, 0, 999)) {
            throw new IllegalArgumentException("demand is out of range");
        }
        return market.scheduleAll(park.plants, Math.max(0, demand - park.forecast()));
    }

    public int missing() {
        return market.unmet;
    }

    public int scheduled(int plant) throws IndexOutOfBoundsException {
        if (!park.hasPlant(plant)) {
            throw new IndexOutOfBoundsException("no such plant");
        }
        return park.plants[plant].planned;
    }

    public int reserve(int plant, int of, int amount, int price)
            throws IndexOutOfBoundsException, IllegalArgumentException, IllegalStateException {
        if (!park.hasPlant(plant)) {
            throw new IndexOutOfBoundsException("no such plant");
        }
        if (!isBetween(of, 0, CLASSES - 1) || !isBetween(amount, 1, 99) || !isBetween(price, 0, MAX_PRICE)) {
            throw new IllegalArgumentException("class, amount or price is out of range");
        }
        Plant selling = park.plants[plant];
        if (selling.planned + selling.sold() + amount > selling.most) {
            throw new IllegalStateException("schedule and reserves would be more than the greatest load");
        }
        selling.reserves[of].sold += amount;
        selling.reserves[of].soldPrice = price;
        return selling.reserves[of].sold;
    }

    public int left(int plant, int of) throws IndexOutOfBoundsException, IllegalArgumentException {
        if (!park.hasPlant(plant)) {
            throw new IndexOutOfBoundsException("no such plant");
        }
        if (!isBetween(of, 0, CLASSES - 1)) {
            throw new IllegalArgumentException("class is out of range");
        }
        return park.plants[plant].reserves[of].left;
    }

    // ---- feeders, wheels, stores

    public int feeder(int node, int demand)
            throws IndexOutOfBoundsException, IllegalArgumentException, IllegalStateException {
        if (!isNode(node)) {
            throw new IndexOutOfBoundsException("no such node");
        }
        if (!isBetween(demand, 0, 60)) {
            throw new IllegalArgumentException("demand is out of range");
        }
        if (park.feederCount >= MAX_FEEDERS) {
            throw new IllegalStateException("there are 10 feeders");
        }
        int number = park.feederCount;
        park.feeders[number].node = node;
        park.feeders[number].demand = demand;
        park.feederCount++;
        return number;
    }

    public int setDemand(int feeder, int demand) throws IndexOutOfBoundsException, IllegalArgumentException {
        if (!park.hasFeeder(feeder)) {
            throw new IndexOutOfBoundsException("no such feeder");
        }
        if (!isBetween(demand, 0, 60)) {
            throw new IllegalArgumentException("demand is out of range");
        }
        int before = park.feeders[feeder].demand;
        park.feeders[feeder].demand = demand;
        return before;
    }

    public boolean isShed(int feeder) throws IndexOutOfBoundsException {
        if (!park.hasFeeder(feeder)) {
            throw new IndexOutOfBoundsException("no such feeder");
        }
        return park.feeders[feeder].isOff;
    }

    public int wheel(int node) throws IndexOutOfBoundsException, IllegalStateException {
        if (!isNode(node)) {
            throw new IndexOutOfBoundsException("no such node");
        }
        if (park.wheelCount >= MAX_WHEELS) {
            throw new IllegalStateException("there are 4 wheels");
        }
        int number = park.wheelCount;
        park.wheels[number].node = node;
        park.wheelCount++;
        return number;
    }

    public int wind(int wheel, boolean isActual, int amount)
            throws IndexOutOfBoundsException, IllegalArgumentException {
        if (!park.hasWheel(wheel)) {
            throw new IndexOutOfBoundsException("no such wheel");
        }
        if (!isBetween(amount, 0, 60)) {
            throw new IllegalArgumentException("amount is out of range");
        }
        Wheel told = park.wheels[wheel];
        int before = isActual ? told.blown : told.forecast;
        if (isActual) {
            told.blown = amount;
        } else {
            told.forecast = amount;
        }
        return before;
    }

    public int store(int node, int room, int rate, int loss)
            throws IndexOutOfBoundsException, IllegalArgumentException, IllegalStateException {
        if (!isNode(node)) {
            throw new IndexOutOfBoundsException("no such node");
        }
        if (!isBetween(room, 1, 999) || !isBetween(rate, 1, 50) || !isBetween(loss, 0, 50)) {
            throw new IllegalArgumentException("room, rate or loss is out of range");
        }
        if (park.storeCount >= MAX_STORES) {
            throw new IllegalStateException("there are 3 stores");
        }
        int number = park.storeCount;
        park.stores[number].setUp(node, room, rate, loss);
        park.storeCount++;
        return number;
    }

    public int level(int store) throws IndexOutOfBoundsException {
        if (!park.hasStore(store)) {
            throw new IndexOutOfBoundsException("no such store");
        }
        return park.stores[store].held;
    }

    public int amount(int what, int which) throws IndexOutOfBoundsException, IllegalArgumentException {
        Unit unit = park.unitAt(what, which);
        if (unit == null && isKind(what)) {
            throw new IndexOutOfBoundsException("no such feeder, plant, wheel or store");
        }
        if (unit == null) {
            throw new IllegalArgumentException("what is out of range");
        }
        return unit.moved;
    }

    // ---- minutes and bills

    public int pass(int minutes) throws IllegalArgumentException, IllegalStateException {
        if (!isBetween(minutes, 1, 100)) {
            throw new IllegalArgumentException("minutes is out of range");
        }
        if (passed + minutes > MAX_MINUTES) {
            throw new IllegalStateException("more than 400 minutes in all");
        }
        for (int k = 0; k < minutes; k++) {
            runMinute();
        }
        return passed;
    }

    public int minute() {
        return passed;
    }

    public boolean breakMeter(int feeder, boolean isBroken) throws IndexOutOfBoundsException {
        if (!park.hasFeeder(feeder)) {
            throw new IndexOutOfBoundsException("no such feeder");
        }
        boolean before = park.feeders[feeder].isBroken;
        park.feeders[feeder].isBroken = isBroken;
        return before;
    }

    public int reading(int feeder, int hour) throws IndexOutOfBoundsException {
        if (!park.hasFeeder(feeder) || !hasBegun(hour)) {
            throw new IndexOutOfBoundsException("no such feeder or hour");
        }
        return park.feeders[feeder].readings[hour];
    }

    public int correct(int feeder, int hour, int reading)
            throws IndexOutOfBoundsException, IllegalArgumentException, IllegalStateException {
        if (!park.hasFeeder(feeder) || !hasBegun(hour)) {
            throw new IndexOutOfBoundsException("no such feeder or hour");
        }
        if (!isBetween(reading, 0, 600)) {
            throw new IllegalArgumentException("reading is out of range");
        }
        Feeder read = park.feeders[feeder];
        if (minutesOf(hour) < HOUR || !read.hasGap[hour] || read.isCorrected[hour]) {
            throw new IllegalStateException("the hour is not over, has no gap, or was corrected");
        }
        int before = read.readings[hour];
        read.readings[hour] = reading;
        read.isCorrected[hour] = true;
        return before;
    }

    public long bill(int what, int which, int hour) throws IndexOutOfBoundsException, IllegalArgumentException {
        Unit unit = park.unitAt(what, which);
        if (!hasBegun(hour) || unit == null && isKind(what)) {
            throw new IndexOutOfBoundsException("no such feeder, plant, wheel, store or hour");
        }
        if (unit == null) {
            throw new IllegalArgumentException("what is out of range");
        }
        return unit instanceof Feeder feeder ? billOfFeeder(feeder, hour) : unit.money[hour];
    }

    public long open(int hour) throws IndexOutOfBoundsException {
        if (!hasBegun(hour)) {
            throw new IndexOutOfBoundsException("no such hour");
        }
        long sum = 0;
        for (int k = 0; k < park.feederCount; k++) {
            sum += billOfFeeder(park.feeders[k], hour);
        }
        return sum - park.gotIn(hour);
    }

    // ---- inside

    private static boolean isBetween(int value, int low, int high) {
        return low <= value && value <= high;
    }

    private static boolean isNode(int node) {
        return 0 <= node && node < NODES;
    }

    private static boolean isKind(int what) {
        return isBetween(what, FEEDER, STORE);
    }

    private boolean hasBegun(int hour) {
        return isBetween(hour, 0, MAX_HOURS - 1) && minutesOf(hour) > 0;
    }

    /** How many minutes of an hour have passed. */
    private int minutesOf(int hour) {
        return Math.max(0, Math.min(HOUR, passed - hour * HOUR));
    }

    private long billOfFeeder(Feeder feeder, int hour) {
        int minutes = minutesOf(hour);
        if (!feeder.hasGap[hour] || minutes < 1 || !isNode(feeder.node)) {
            return feeder.money[hour];
        }
        return (long) feeder.readings[hour] * priceSums[feeder.node][hour] / minutes;
    }

    private void runMinute() {
        int hour = passed / HOUR;
        if (!isBetween(hour, 0, MAX_HOURS - 1)) {
            return;
        }
        if (passed % HOUR == 0) {
            park.beginHour();
        }
        park.stepStarts();
        net.stepCrews();
        net.closeCooledLines();
        net.findIslands();
        park.placeUnits(net.lowest);
        for (int node = 0; node < NODES; node++) {
            int island = net.lowest[node];
            // An island is told by its lowest node, so that its price stands before its other nodes ask for it.
            prices[node] = isBetween(island, 0, node - 1) ? prices[island] : balance.settle(island);
            priceSums[node][hour] += Math.max(0, prices[node]);
        }
        park.countExcess(excess);
        net.findFlows(excess);
        net.heatLines();
        park.bookMinute(hour, prices);
        passed++;
    }

    /** A line between two nodes; one that was not added yet has no nodes, and never is IN. */
    private static final class Line {
        int one = NONE;
        int other = NONE;
        int length = 1;
        int limit = 1;
        int state = DEAD;
        boolean isDamaged = false;
        int crew = NONE;
        int toGo = 0;
        float heat = 0f;
        int flow = 0;
        /** Whether it was IN when flows were found last: flows found anew must not see what was switched since. */
        boolean wasIn = false;

        void layOut(int from, int to, int itsLength, int itsLimit) {
            one = from;
            other = to;
            length = itsLength;
            limit = itsLimit;
            state = IN;
        }

        /** The node at the other end; NONE if the line does not touch this one. */
        int farEnd(int node) {
            if (node == one) {
                return other;
            }
            return node == other ? one : NONE;
        }

        void warm() {
            float load = state == IN && limit > 0 ? (float) Math.abs(flow) / (float) limit : 0f;
            heat = heat + 0.25f * (load - heat);
            if (state == IN && heat > 1f) {
                state = TRIPPED;
            }
        }
    }

    /** The lines, the islands that they make, and what flows over them. */
    private static final class Net {
        final Line[] lines = new Line[MAX_LINES];
        int count = 0;
        /** Of each node the lowest one of its island, as found last. */
        final int[] lowest = new int[NODES];
        private final int[] distance = new int[NODES];
        private final int[] waiting = new int[NODES];
        private final int[] rest = new int[NODES];
        private final int[] sendFrom = new int[NODES];
        private final int[] sendTo = new int[NODES];
        private final int[] sendAmount = new int[NODES];
        private int sends = 0;

        Net() {
            for (int k = 0; k < MAX_LINES; k++) {
                lines[k] = new Line();
            }
        }

        boolean has(int line) {
            return isBetween(line, 0, count - 1) && line < MAX_LINES;
        }

        /** The line on which a crew has its permit, or NONE. */
        int permitOf(int crew) {
            for (int k = 0; k < MAX_LINES; k++) {
                if (lines[k].crew == crew) {
                    return k;
                }
            }
            return NONE;
        }

        void stepCrews() {
            for (Line line : lines) {
                if (line.crew != NONE && line.toGo > 0) {
                    line.toGo--;
                    line.isDamaged = line.isDamaged && line.toGo > 0;
                }
            }
        }

        void closeCooledLines() {
            for (Line line : lines) {
                if (line.state == TRIPPED && !line.isDamaged && line.heat <= 0.25f) {
                    line.state = IN;
                }
            }
        }

        void heatLines() {
            for (Line line : lines) {
                line.warm();
            }
        }

        void findIslands() {
            for (int node = 0; node < NODES; node++) {
                lowest[node] = node;
            }
            for (Line line : lines) {
                if (line.state == IN && isNode(line.one) && isNode(line.other)) {
                    joinIslands(lowest[line.one], lowest[line.other]);
                }
            }
        }

        private void joinIslands(int first, int second) {
            int low = Math.min(first, second);
            int high = Math.max(first, second);
            for (int node = 0; node < NODES; node++) {
                if (lowest[node] == high) {
                    lowest[node] = low;
                }
            }
        }

        void findFlows(int[] excess) {
            for (Line line : lines) {
                line.wasIn = line.state == IN;
                line.flow = 0;
            }
            pairNodes(excess);
            for (int send = 0; send < sends && send < NODES; send++) {
                spread(send);
            }
        }

        /** Finds who sends how much to whom, over lines that were IN. */
        void pairNodes(int[] excess) {
            sends = 0;
            for (int node = 0; node < NODES && node < excess.length; node++) {
                rest[node] = excess[node];
            }
            for (int from = 0; from < NODES; from++) {
                for (int to = 0; to < NODES && rest[from] > 0; to++) {
                    if (rest[to] < 0) {
                        pair(from, to);
                    }
                }
            }
        }

        private void pair(int from, int to) {
            measure(to);
            if (distance[from] >= FAR || sends >= NODES) {
                return;
            }
            int moved = Math.min(rest[from], -rest[to]);
            rest[from] -= moved;
            rest[to] += moved;
            sendFrom[sends] = from;
            sendTo[sends] = to;
            sendAmount[sends] = moved;
            sends++;
        }

        /** Finds how far each node is from a target; FAR if there is no way. */
        private void measure(int target) {
            for (int node = 0; node < NODES; node++) {
                distance[node] = node == target ? 0 : FAR;
            }
            boolean isNew = true;
            for (int round = 0; round < NODES && isNew; round++) {
                isNew = false;
                for (Line line : lines) {
                    if (line.wasIn && isNode(line.one) && isNode(line.other)) {
                        isNew = bringNear(line.one, line.other, line.length) || isNew;
                        isNew = bringNear(line.other, line.one, line.length) || isNew;
                    }
                }
            }
        }

        private boolean bringNear(int node, int next, int length) {
            if (distance[next] + length >= distance[node]) {
                return false;
            }
            distance[node] = distance[next] + length;
            return true;
        }

        /** Whether a line begins a shortest way from a node to the target that was measured last. */
        private boolean begins(Line line, int node) {
            int next = line.farEnd(node);
            return line.wasIn && isNode(node) && isNode(next) && distance[next] + line.length == distance[node];
        }

        private int countWays(int node) {
            int ways = 0;
            for (Line line : lines) {
                if (begins(line, node)) {
                    ways++;
                }
            }
            return ways;
        }

        private void spread(int send) {
            measure(sendTo[send]);
            for (int node = 0; node < NODES; node++) {
                waiting[node] = node == sendFrom[send] ? sendAmount[send] : 0;
            }
            // Farthest first, so that all that comes to a node has come before it is shared there.
            for (int round = 0; round < NODES; round++) {
                int node = farthestWaiting(sendTo[send]);
                if (node == NONE) {
                    return;
                }
                shareAt(node);
            }
        }

        private int farthestWaiting(int target) {
            int found = NONE;
            for (int node = 0; node < NODES; node++) {
                if (node != target && waiting[node] > 0 && (found == NONE || distance[node] > distance[found])) {
                    found = node;
                }
            }
            return found;
        }

        private void shareAt(int node) {
            int ways = countWays(node);
            if (ways < 1) {
                return;
            }
            int each = waiting[node] / ways;
            int more = waiting[node] % ways;
            waiting[node] = 0;
            for (Line line : lines) {
                int next = line.farEnd(node);
                if (isNode(next) && begins(line, node)) {
                    int part = more > 0 ? each + 1 : each;
                    more--;
                    waiting[next] += part;
                    line.flow += node == line.one ? part : -part;
                }
            }
        }

        /** What all sends found last bring over a line, asked backwards, way by way. */
        int sumOfWays(int number) {
            if (!has(number)) {
                return 0;
            }
            Line line = lines[number];
            int sum = 0;
            for (int send = 0; send < sends && send < NODES; send++) {
                measure(sendTo[send]);
                if (begins(line, line.one)) {
                    sum += partOver(number, line.one, send, 0);
                } else if (begins(line, line.other)) {
                    sum -= partOver(number, line.other, send, 0);
                }
            }
            return sum;
        }

        /** What of a send goes from a node over a line that begins a shortest way there. */
        private int partOver(int number, int node, int send, int depth) {
            int ways = countWays(node);
            if (ways < 1) {
                return 0;
            }
            int coming = comingTo(node, send, depth);
            int rank = 0;
            for (int lower = 0; lower < number && lower < MAX_LINES; lower++) {
                if (begins(lines[lower], node)) {
                    rank++;
                }
            }
            return coming / ways + (rank < coming % ways ? 1 : 0);
        }

        private int comingTo(int node, int send, int depth) {
            if (depth > NODES) {
                return 0;
            }
            int sum = node == sendFrom[send] ? sendAmount[send] : 0;
            for (int number = 0; number < MAX_LINES; number++) {
                int before = lines[number].farEnd(node);
                if (isNode(before) && begins(lines[number], before)) {
                    sum += partOver(number, before, send, depth + 1);
                }
            }
            return sum;
        }
    }

    /** What makes, uses or stores; one that was not added yet has no node, and so stands in no island. */
    private abstract static class Unit {
        int node = NONE;
        /** The island in which it was placed last. */
        int island = NONE;
        /** What it made, used or gave in the minute that was last, below 0 for what it took in. */
        int moved = 0;
        /** By hours: what a feeder paid; what another one got, less what it paid. */
        final long[] money = new long[MAX_HOURS];

        void place(int[] lowest) {
            island = isBetween(node, 0, lowest.length - 1) ? lowest[node] : NONE;
        }

        void book(int hour, int[] prices) {
            if (isBetween(node, 0, prices.length - 1)) {
                money[hour] += (long) moved * prices[node];
            }
        }

        /** Adds what it made or gave, less what it used or took in, to the excess of its node. */
        void addTo(int[] excess, boolean isUsing) {
            if (isBetween(node, 0, excess.length - 1)) {
                excess[node] += isUsing ? -moved : moved;
            }
        }
    }

    private static final class Wheel extends Unit {
        int forecast = 0;
        int blown = 0;
    }

    private static final class Store extends Unit {
        int room = 1;
        int rate = 1;
        int loss = 0;
        int held = 0;

        void setUp(int at, int itsRoom, int itsRate, int itsLoss) {
            node = at;
            room = itsRoom;
            rate = itsRate;
            loss = itsLoss;
        }

        int canGive() {
            return Math.min(rate, held / WHOLE);
        }

        int canTake() {
            int kept = WHOLE - loss;
            return kept < 1 ? 0 : Math.min(rate, (room * WHOLE - held) / kept);
        }

        void fillOrDrain() {
            held -= moved > 0 ? moved * WHOLE : moved * (WHOLE - loss);
        }
    }

    private static final class Feeder extends Unit {
        int demand = 0;
        boolean isOff = false;
        /** The number of its latest shedding, of all sheddings; 0 if it was never shed. */
        int shedding = 0;
        boolean isBroken = false;
        final int[] readings = new int[MAX_HOURS];
        final boolean[] hasGap = new boolean[MAX_HOURS];
        final boolean[] isCorrected = new boolean[MAX_HOURS];
        private boolean keptOff = false;
        private int keptShedding = 0;

        void keep() {
            keptOff = isOff;
            keptShedding = shedding;
        }

        void putBack() {
            isOff = keptOff;
            shedding = keptShedding;
        }

        void count(int hour) {
            if (moved > 0 && isBroken) {
                hasGap[hour] = true;
            } else {
                readings[hour] += moved;
            }
        }
    }

    /** A plant's reserve of one class: what is sold for the hour to come, and what is left of this hour's. */
    private static final class Reserve {
        int sold = 0;
        int soldPrice = 0;
        int left = 0;
        int cost = 0;
        boolean isCalled = false;
        private int keptLeft = 0;
        private boolean keptCalled = false;

        void beginHour() {
            left = sold;
            cost = soldPrice;
            isCalled = false;
            sold = 0;
        }

        void keep() {
            keptLeft = left;
            keptCalled = isCalled;
        }

        void putBack() {
            left = keptLeft;
            isCalled = keptCalled;
        }
    }

    private static final class Plant extends Unit {
        int least = 0;
        int most = 1;
        int startTime = 0;
        boolean isBlack = false;
        int state = OFF;
        int toGo = 0;
        int steps = 0;
        final int[] stepPrices = new int[MAX_STEPS];
        final int[] stepAmounts = new int[MAX_STEPS];
        int planned = 0;
        int base = 0;
        final Reserve[] reserves = new Reserve[CLASSES];
        private int keptBase = 0;
        /** While the market is cleared: how many steps were looked at, and whether the plant is out. */
        int stepsTaken = 0;
        boolean isOut = false;

        Plant() {
            for (int of = 0; of < CLASSES; of++) {
                reserves[of] = new Reserve();
            }
        }

        void setUp(int at, int itsLeast, int itsMost, int itsStart, boolean canStartDark) {
            node = at;
            least = itsLeast;
            most = itsMost;
            startTime = itsStart;
            isBlack = canStartDark;
        }

        int offered() {
            int sum = 0;
            for (int step = 0; step < steps && step < MAX_STEPS; step++) {
                sum += stepAmounts[step];
            }
            return sum;
        }

        int lastPrice() {
            return isBetween(steps, 1, MAX_STEPS) ? stepPrices[steps - 1] : 0;
        }

        int sold() {
            int sum = 0;
            for (Reserve reserve : reserves) {
                sum += reserve.sold;
            }
            return sum;
        }

        void takeBackReserves() {
            for (Reserve reserve : reserves) {
                reserve.sold = 0;
            }
        }

        int nextPrice() {
            return isBetween(stepsTaken, 0, MAX_STEPS - 1) ? stepPrices[stepsTaken] : 0;
        }

        /** Takes what is wanted of the next step, as far as that goes; returns how much. */
        int takeStep(int wanted) {
            if (!isBetween(stepsTaken, 0, MAX_STEPS - 1)) {
                return 0;
            }
            int taken = Math.min(wanted, stepAmounts[stepsTaken]);
            planned += taken;
            stepsTaken++;
            return taken;
        }

        int heldBase() {
            return Math.max(least, Math.min(most, base));
        }

        /** What it could make with all reserves that are left. */
        int reach() {
            int sum = heldBase();
            for (Reserve reserve : reserves) {
                sum += reserve.left;
            }
            return Math.min(most, sum);
        }

        void beginHour() {
            base = planned;
            planned = 0;
            for (Reserve reserve : reserves) {
                reserve.beginHour();
            }
        }

        void keep() {
            keptBase = base;
            for (Reserve reserve : reserves) {
                reserve.keep();
            }
        }

        void putBack() {
            base = keptBase;
            for (Reserve reserve : reserves) {
                reserve.putBack();
            }
        }

        /** The greatest price of the steps that its load needs, and of its reserves that were called. */
        int priceOfUse() {
            int greatest = 0;
            int rest = moved;
            for (int step = 0; step < steps && step < MAX_STEPS && rest > 0; step++) {
                greatest = Math.max(greatest, stepPrices[step]);
                rest -= stepAmounts[step];
            }
            for (Reserve reserve : reserves) {
                greatest = Math.max(greatest, reserve.isCalled ? reserve.cost : 0);
            }
            return greatest;
        }
    }

    /** All plants, feeders, wheels and stores. */
    private static final class Park {
        final Plant[] plants = new Plant[MAX_PLANTS];
        final Feeder[] feeders = new Feeder[MAX_FEEDERS];
        final Wheel[] wheels = new Wheel[MAX_WHEELS];
        final Store[] stores = new Store[MAX_STORES];
        int plantCount = 0;
        int feederCount = 0;
        int wheelCount = 0;
        int storeCount = 0;

        Park() {
            for (int k = 0; k < MAX_PLANTS; k++) {
                plants[k] = new Plant();
            }
            for (int k = 0; k < MAX_FEEDERS; k++) {
                feeders[k] = new Feeder();
            }
            for (int k = 0; k < MAX_WHEELS; k++) {
                wheels[k] = new Wheel();
            }
            for (int k = 0; k < MAX_STORES; k++) {
                stores[k] = new Store();
            }
        }

        boolean hasPlant(int plant) {
            return isBetween(plant, 0, plantCount - 1) && plant < MAX_PLANTS;
        }

        boolean hasFeeder(int feeder) {
            return isBetween(feeder, 0, feederCount - 1) && feeder < MAX_FEEDERS;
        }

        boolean hasWheel(int wheel) {
            return isBetween(wheel, 0, wheelCount - 1) && wheel < MAX_WHEELS;
        }

        boolean hasStore(int store) {
            return isBetween(store, 0, storeCount - 1) && store < MAX_STORES;
        }

        /** The feeder, plant, wheel or store of a number; null if there is none. */
        Unit unitAt(int what, int which) {
            if (what == FEEDER && hasFeeder(which)) {
                return feeders[which];
            }
            if (what == PLANT && hasPlant(which)) {
                return plants[which];
            }
            if (what == WHEEL && hasWheel(which)) {
                return wheels[which];
            }
            return what == STORE && hasStore(which) ? stores[which] : null;
        }

        /** Places all in islands, told by the lowest nodes. */
        void placeUnits(int[] lowest) {
            for (Plant plant : plants) {
                plant.place(lowest);
            }
            for (Feeder feeder : feeders) {
                feeder.place(lowest);
            }
            for (Wheel wheel : wheels) {
                wheel.place(lowest);
            }
            for (Store store : stores) {
                store.place(lowest);
            }
        }

        boolean isLive(int island) {
            for (Plant plant : plants) {
                if (plant.island == island && plant.state == ON) {
                    return true;
                }
            }
            for (Store store : stores) {
                if (store.island == island && store.held >= WHOLE) {
                    return true;
                }
            }
            return false;
        }

        int forecast() {
            int sum = 0;
            for (Wheel wheel : wheels) {
                sum += wheel.forecast;
            }
            return sum;
        }

        void beginHour() {
            for (Plant plant : plants) {
                plant.beginHour();
            }
        }

        void stepStarts() {
            for (Plant plant : plants) {
                if (plant.state == STARTING) {
                    plant.toGo--;
                    plant.state = plant.toGo > 0 ? STARTING : ON;
                }
            }
        }

        /** Counts, by nodes, what was made and given less what was used and taken in. */
        void countExcess(int[] excess) {
            for (int node = 0; node < excess.length; node++) {
                excess[node] = 0;
            }
            for (Plant plant : plants) {
                plant.addTo(excess, false);
            }
            for (Wheel wheel : wheels) {
                wheel.addTo(excess, false);
            }
            for (Store store : stores) {
                store.addTo(excess, false);
            }
            for (Feeder feeder : feeders) {
                feeder.addTo(excess, true);
            }
        }

        void bookMinute(int hour, int[] prices) {
            for (Plant plant : plants) {
                plant.book(hour, prices);
            }
            for (Wheel wheel : wheels) {
                wheel.book(hour, prices);
            }
            for (Store store : stores) {
                store.book(hour, prices);
            }
            for (Feeder feeder : feeders) {
                feeder.book(hour, prices);
                feeder.count(hour);
            }
        }

        /** What all plants, wheels and stores got in an hour, less what they paid. */
        long gotIn(int hour) {
            long sum = 0;
            for (Plant plant : plants) {
                sum += plant.money[hour];
            }
            for (Wheel wheel : wheels) {
                sum += wheel.money[hour];
            }
            for (Store store : stores) {
                sum += store.money[hour];
            }
            return sum;
        }
    }

    /** The market for the hour to come. */
    private static final class Market {
        int unmet = 0;

        /** Schedules plants for what is wanted; returns the price of the market. */
        int scheduleAll(Plant[] plants, int wanted) {
            for (Plant plant : plants) {
                plant.isOut = false;
                plant.takeBackReserves();
            }
            int last = takeSteps(plants, wanted);
            for (int round = 0; round < MAX_PLANTS && putOut(plants); round++) {
                last = takeSteps(plants, wanted);
            }
            return last;
        }

        /** Takes steps as far as something is wanted; returns the price of the last one. */
        private int takeSteps(Plant[] plants, int wanted) {
            for (Plant plant : plants) {
                plant.planned = 0;
                plant.stepsTaken = 0;
            }
            int last = 0;
            unmet = wanted;
            for (int k = 0; k < MAX_PLANTS * MAX_STEPS && unmet > 0; k++) {
                Plant next = cheapest(plants);
                if (next == null) {
                    break;
                }
                last = next.nextPrice();
                unmet -= next.takeStep(unmet);
            }
            return last;
        }

        /** The plant whose next step is to be taken: its steps never fall in price, so the next one tells. */
        private static Plant cheapest(Plant[] plants) {
            Plant found = null;
            for (Plant plant : plants) {
                boolean hasMore = !plant.isOut && plant.stepsTaken < plant.steps;
                if (hasMore && (found == null || plant.nextPrice() < found.nextPrice())) {
                    found = plant;
                }
            }
            return found;
        }

        /** Puts out the lowest plant that has something, but less than its least load; tells whether there was one. */
        private static boolean putOut(Plant[] plants) {
            for (Plant plant : plants) {
                if (plant.planned > 0 && plant.planned < plant.least) {
                    plant.isOut = true;
                    return true;
                }
            }
            return false;
        }
    }

    /** Balances one island for one minute. */
    private static final class Balance {
        final Park park = new Park();
        private int island = NONE;
        /** What is wanted and not there yet; below 0, what there is too much. */
        private int lack = 0;
        private int sheddings = 0;

        /** Balances an island; returns its price, NONE if it is not live. */
        int settle(int lowest) {
            island = lowest;
            boolean isLive = park.isLive(island);
            if (isLive) {
                serveAgain();
                keepAll();
                shareOut();
                for (int round = 0; round < MAX_PLANTS && putDearestOff(); round++) {
                    putBackAll();
                    shareOut();
                }
            } else {
                beginRound(false);
            }
            useDemands(isLive);
            moveStores();
            return isLive ? priceOfIsland() : NONE;
        }

        private boolean holds(Unit unit) {
            return unit.island == island;
        }

        private boolean isRunning(Plant plant) {
            return plant.state == ON && plant.island == island;
        }

        /** Puts the dearest plant OFF if there is still too much; tells whether it did. */
        private boolean putDearestOff() {
            Plant dearest = lack < 0 ? dearestWith(0) : null;
            if (dearest == null) {
                return false;
            }
            dearest.state = OFF;
            return true;
        }

        private void moveStores() {
            for (Store store : park.stores) {
                if (holds(store)) {
                    store.fillOrDrain();
                }
            }
        }

        private int servedDemand() {
            int sum = 0;
            for (Feeder feeder : park.feeders) {
                if (holds(feeder) && !feeder.isOff) {
                    sum += feeder.demand;
                }
            }
            return sum;
        }

        private int roomForAll() {
            int sum = 0;
            for (Plant plant : park.plants) {
                sum += isRunning(plant) ? plant.reach() : 0;
            }
            for (Wheel wheel : park.wheels) {
                sum += holds(wheel) ? wheel.blown : 0;
            }
            for (Store store : park.stores) {
                sum += holds(store) ? store.canGive() : 0;
            }
            return sum;
        }

        private void serveAgain() {
            Feeder first = null;
            for (Feeder feeder : park.feeders) {
                if (holds(feeder) && feeder.isOff && (first == null || feeder.shedding < first.shedding)) {
                    first = feeder;
                }
            }
            if (first != null && first.demand <= roomForAll() - servedDemand()) {
                first.isOff = false;
            }
        }

        private void keepAll() {
            for (Plant plant : park.plants) {
                plant.keep();
            }
            for (Feeder feeder : park.feeders) {
                feeder.keep();
            }
        }

        private void putBackAll() {
            for (Plant plant : park.plants) {
                plant.putBack();
            }
            for (Feeder feeder : park.feeders) {
                feeder.putBack();
            }
        }

        /** All of the island as it makes and gives at first; nothing if the island is not live. */
        private void beginRound(boolean live) {
            for (Plant plant : park.plants) {
                if (holds(plant)) {
                    plant.moved = live && plant.state == ON ? plant.heldBase() : 0;
                }
            }
            for (Wheel wheel : park.wheels) {
                if (holds(wheel)) {
                    wheel.moved = live ? wheel.blown : 0;
                }
            }
            for (Store store : park.stores) {
                if (holds(store)) {
                    store.moved = 0;
                }
            }
        }

        private void useDemands(boolean live) {
            for (Feeder feeder : park.feeders) {
                if (holds(feeder)) {
                    feeder.moved = live && !feeder.isOff ? feeder.demand : 0;
                }
            }
        }

        private int supply() {
            int sum = 0;
            for (Plant plant : park.plants) {
                sum += holds(plant) ? plant.moved : 0;
            }
            for (Wheel wheel : park.wheels) {
                sum += holds(wheel) ? wheel.moved : 0;
            }
            return sum;
        }

        private void shareOut() {
            beginRound(true);
            lack = servedDemand() - supply();
            if (lack > 0) {
                for (int of = 0; of < CLASSES; of++) {
                    callReserves(of);
                }
                letStoresGive();
                shedFeeders();
            }
            if (lack < 0) {
                letStoresTakeIn();
                letPlantsMakeLess();
                letWheelsMakeLess();
                letStoresGiveLess();
            }
        }

        private void callReserves(int of) {
            for (int k = 0; k < MAX_PLANTS && lack > 0; k++) {
                Plant next = cheapestReserve(of);
                if (next == null) {
                    return;
                }
                Reserve reserve = next.reserves[of];
                int called = Math.min(lack, Math.min(reserve.left, next.most - next.moved));
                reserve.left -= called;
                reserve.isCalled = true;
                next.moved += called;
                next.base = next.moved;
                lack -= called;
            }
        }

        private Plant cheapestReserve(int of) {
            Plant found = null;
            for (Plant plant : park.plants) {
                boolean canCall = isRunning(plant) && plant.reserves[of].left > 0 && plant.moved < plant.most;
                if (canCall && (found == null || plant.reserves[of].cost < found.reserves[of].cost)) {
                    found = plant;
                }
            }
            return found;
        }

        private void letStoresGive() {
            for (Store store : park.stores) {
                if (holds(store)) {
                    store.moved = Math.min(lack, store.canGive());
                    lack -= store.moved;
                }
            }
        }

        private void shedFeeders() {
            for (int k = 0; k < MAX_FEEDERS && lack > 0; k++) {
                Feeder next = nextToShed();
                if (next == null) {
                    return;
                }
                sheddings++;
                next.isOff = true;
                next.shedding = sheddings;
                lack -= next.demand;
            }
        }

        private Feeder nextToShed() {
            Feeder found = null;
            for (Feeder feeder : park.feeders) {
                boolean canShed = holds(feeder) && !feeder.isOff && feeder.demand > 0;
                if (canShed && (found == null || feeder.shedding < found.shedding)) {
                    found = feeder;
                }
            }
            return found;
        }

        private void letStoresTakeIn() {
            for (Store store : park.stores) {
                if (holds(store) && store.moved == 0) {
                    int taken = Math.min(-lack, store.canTake());
                    store.moved = -taken;
                    lack += taken;
                }
            }
        }

        private void letPlantsMakeLess() {
            for (int k = 0; k < MAX_PLANTS && lack < 0; k++) {
                Plant next = dearestWith(1);
                if (next == null) {
                    return;
                }
                int less = Math.min(-lack, next.moved - next.least);
                next.moved -= less;
                lack += less;
            }
        }

        /** The dearest plant that is ON and makes this much more than its least load; null if there is none. */
        private Plant dearestWith(int spare) {
            Plant found = null;
            for (Plant plant : park.plants) {
                boolean canBe = isRunning(plant) && plant.moved - plant.least >= spare;
                if (canBe && (found == null || plant.lastPrice() >= found.lastPrice())) {
                    found = plant;
                }
            }
            return found;
        }

        private void letWheelsMakeLess() {
            for (Wheel wheel : park.wheels) {
                if (holds(wheel)) {
                    int less = Math.min(-lack, wheel.moved);
                    wheel.moved -= less;
                    lack += less;
                }
            }
        }

        private void letStoresGiveLess() {
            for (Store store : park.stores) {
                if (holds(store) && store.moved > 0) {
                    int less = Math.min(-lack, store.moved);
                    store.moved -= less;
                    lack += less;
                }
            }
        }

        private int priceOfIsland() {
            int greatest = 0;
            for (Feeder feeder : park.feeders) {
                if (holds(feeder) && feeder.isOff) {
                    return SHED_PRICE;
                }
            }
            for (Plant plant : park.plants) {
                greatest = Math.max(greatest, isRunning(plant) ? plant.priceOfUse() : 0);
            }
            return greatest;
        }
    }
}
