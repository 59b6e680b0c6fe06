import java.util.Random;

/**
 * What the document says of every minute, whatever was called ahead of it, held against what the grid itself answers:
 * heat by flows, flows by amounts, amounts by islands, money by amounts and prices. Nothing is told twice here: only
 * what was handed to the grid is kept, and what it answered.
 */
public final class InvariantsTest {
    private static final int RUNS = 300;
    private static final int DEEDS = 450;
    private static final int NODES = 8;
    private static final int HOURS = 40;
    private static final Check C = new Check();

    private final Random random;
    private final boolean isMeterSafe;
    private final CopperDispatch g = new CopperDispatch();
    private int lines = 0;
    private int plants = 0;
    private int feeders = 0;
    private int wheels = 0;
    private int stores = 0;
    private final int[][] line = new int[12][];
    private final int[][] plant = new int[8][];
    private final int[][] feeder = new int[10][];
    private final int[][] wheel = new int[4][];
    private final int[][] store = new int[3][];
    private final int[] toGo = new int[8];
    private final int[] blown = new int[4];
    private final int[] forecast = new int[4];
    private final int[][] sold = new int[8][2];
    private final int[] next = new int[8];
    private final boolean[] isBroken = new boolean[10];
    private final boolean[][] hasGap = new boolean[10][HOURS];
    private final boolean[][] isCorrected = new boolean[10][HOURS];
    private final long[][][] money = new long[4][10][HOURS];
    private final int[][] reading = new int[10][HOURS];
    private final long[][] prices = new long[NODES][HOURS];

    // What was so ahead of the minute that is looked at.
    private final int[] state = new int[12];
    private final float[] heat = new float[12];
    private final int[] level = new int[3];
    private final int[] base = new int[8];
    private final boolean[] wasOn = new boolean[8];
    private final boolean[] wasShed = new boolean[10];
    private final boolean[] carried = new boolean[12];
    private final int[] island = new int[NODES];
    private final boolean[] isLive = new boolean[NODES];

    private InvariantsTest(long seed) {
        random = new Random(seed);
        isMeterSafe = seed % 3 == 0;
    }

    public static void main(String[] args) {
        long first = args.length > 0 ? Long.parseLong(args[0]) : 0;
        int runs = args.length > 1 ? Integer.parseInt(args[1]) : RUNS;
        for (long seed = first; seed < first + runs; seed++) {
            new InvariantsTest(seed).run();
        }
        C.end();
    }

    private void run() {
        int setups = 10 + random.nextInt(25);
        for (int k = 0; k < setups; k++) {
            setUp();
        }
        for (int k = 0; k < DEEDS && g.minute() < 400; k++) {
            deed();
        }
    }

    private int some(int low, int high) {
        return low + random.nextInt(high - low + 1);
    }

    private void setUp() {
        int node = random.nextInt(random.nextInt(3) == 0 ? NODES : 4);
        switch (random.nextInt(6)) {
            case 0:
            case 1:
                addLine(node, (node + some(1, 3)) % NODES);
                break;
            case 2:
                addPlant(node);
                break;
            case 3:
                if (feeders < 10) {
                    feeder[feeders] = new int[] {node, some(0, 30)};
                    C.due(feeders, () -> g.feeder(node, feeder[feeders][1]));
                    feeders++;
                }
                break;
            case 4:
                if (wheels < 4) {
                    wheel[wheels] = new int[] {node};
                    C.due(wheels, () -> g.wheel(node));
                    wheels++;
                }
                break;
            default:
                addStore(node);
        }
    }

    private void addLine(int one, int other) {
        if (lines < 12) {
            line[lines] = new int[] {one, other, some(1, 3), some(4, 50)};
            C.due(lines, () -> g.line(one, other, line[lines][2], line[lines][3]));
            lines++;
        }
    }

    private void addPlant(int node) {
        if (plants < 8) {
            plant[plants] = new int[] {node, some(0, 12), some(12, 70), some(0, 3)};
            boolean isBlack = random.nextInt(3) > 0;
            C.due(plants, () -> g.plant(node, plant[plants][1], plant[plants][2], plant[plants][3], isBlack));
            plants++;
        }
    }

    private void addStore(int node) {
        if (stores < 3) {
            store[stores] = new int[] {node, some(1, 60), some(1, 20), some(0, 50)};
            C.due(stores, () -> g.store(node, store[stores][1], store[stores][2], store[stores][3]));
            stores++;
        }
    }

    private void deed() {
        switch (random.nextInt(16)) {
            case 0:
                doLine(lines > 0 ? random.nextInt(lines) : 0);
                break;
            case 1:
                doCrew(random.nextInt(2), lines > 0 ? random.nextInt(lines) : 0);
                break;
            case 2:
            case 3:
                doPlant(plants > 0 ? random.nextInt(plants) : 0);
                break;
            case 4:
                doMarket();
                break;
            case 5:
                doReserve(plants > 0 ? random.nextInt(plants) : 0);
                break;
            case 6:
                doFeeder(feeders > 0 ? random.nextInt(feeders) : 0);
                break;
            case 7:
                doWheel(wheels > 0 ? random.nextInt(wheels) : 0);
                break;
            case 8:
                doReading(feeders > 0 ? random.nextInt(feeders) : 0);
                break;
            case 9:
                if (random.nextInt(6) == 0) {
                    setUp();
                }
                break;
            default:
                passOne();
        }
    }

    /** Whether a call was taken; what throws must have changed nothing, so that nothing is kept of it. */
    private static boolean took(Runnable call) {
        try {
            call.run();
            return true;
        } catch (IndexOutOfBoundsException | IllegalArgumentException | IllegalStateException e) {
            return false;
        }
    }

    private void doLine(int number) {
        if (random.nextInt(4) == 0) {
            took(() -> g.storm(number));
        } else {
            took(() -> g.switchLine(number, random.nextInt(4) > 0));
        }
    }

    private void doCrew(int crew, int number) {
        if (random.nextInt(2) == 0) {
            took(() -> g.permit(crew, number, some(1, 4)));
        } else {
            took(() -> g.giveBack(crew));
        }
    }

    private void doPlant(int number) {
        if (random.nextInt(6) == 0) {
            took(() -> g.stop(number));
        } else if (random.nextInt(3) == 0) {
            took(() -> g.withdraw(number));
        } else if (random.nextInt(2) == 0) {
            took(() -> g.offer(number, some(0, 40), some(1, 25)));
        } else if (took(() -> g.start(number))) {
            toGo[number] = plant[number][3];
        }
    }

    private void doMarket() {
        int demand = some(0, 120);
        int price = g.clear(demand);
        int wanted = demand;
        for (int k = 0; k < wheels; k++) {
            wanted -= forecast[k];
        }
        wanted = Math.max(0, wanted);
        int sum = g.missing();
        for (int k = 0; k < plants; k++) {
            int has = g.scheduled(k);
            int least = plant[k][1];
            int most = plant[k][2];
            C.due(true, () -> has == 0 || has >= least && has <= most);
            sum += has;
            next[k] = has;
            sold[k][0] = 0;
            sold[k][1] = 0;
        }
        int due = wanted;
        int is = sum;
        C.due(due, () -> is);
        C.due(true, () -> price >= 0 && price <= 40 && (due > g.missing() || price == 0));
    }

    private void doReserve(int number) {
        int of = random.nextInt(2);
        int amount = some(1, 20);
        if (number >= plants) {
            return;
        }
        boolean fits = g.scheduled(number) + sold[number][0] + sold[number][1] + amount <= plant[number][2];
        C.due(fits, () -> took(() -> g.reserve(number, of, amount, some(0, 90))));
        sold[number][of] += fits ? amount : 0;
    }

    private void doFeeder(int number) {
        int demand = some(0, random.nextInt(3) == 0 ? 60 : 20);
        if (number < feeders) {
            C.due(feeder[number][1], () -> g.setDemand(number, demand));
            feeder[number][1] = demand;
        }
        if (number < feeders && !isMeterSafe) {
            boolean breaks = random.nextInt(3) == 0;
            C.due(isBroken[number], () -> g.breakMeter(number, breaks));
            isBroken[number] = breaks;
        }
    }

    private void doWheel(int number) {
        int amount = some(0, random.nextInt(3) == 0 ? 60 : 20);
        boolean isActual = random.nextInt(3) > 0;
        if (number < wheels) {
            int[] told = isActual ? blown : forecast;
            C.due(told[number], () -> g.wind(number, isActual, amount));
            told[number] = amount;
        }
    }

    private void doReading(int number) {
        int hour = random.nextInt(1 + g.minute() / 10);
        if (number >= feeders || hour >= HOURS || hour * 10 >= g.minute()) {
            return;
        }
        boolean isOver = hour * 10 + 10 <= g.minute();
        boolean may = isOver && hasGap[number][hour] && !isCorrected[number][hour];
        int to = some(0, 600);
        C.due(may, () -> took(() -> g.correct(number, hour, to)));
        if (may) {
            reading[number][hour] = to;
            isCorrected[number][hour] = true;
        }
        C.due(reading[number][hour], () -> g.reading(number, hour));
        lookAtBills(hour);
    }

    private void passOne() {
        lookAhead();
        int before = g.minute();
        if (before >= 400) {
            return;
        }
        C.due(before + 1, () -> g.pass(1));
        stepPlants();
        findIslands();
        findLive();
        for (int k = 0; k < lines; k++) {
            lookAtLine(k);
        }
        lookAtNodes();
        for (int k = 0; k < plants; k++) {
            lookAtPlant(k, before % 10 == 0);
        }
        for (int k = 0; k < stores; k++) {
            lookAtStore(k);
        }
        for (int k = 0; k < wheels; k++) {
            lookAtWheel(k);
        }
        for (int k = 0; k < feeders; k++) {
            lookAtFeeder(k);
        }
        count(before / 10);
        lookAtBills(before / 10);
    }

    private void lookAhead() {
        for (int k = 0; k < lines; k++) {
            state[k] = g.stateOf(k);
            heat[k] = g.heat(k);
        }
        for (int k = 0; k < stores; k++) {
            level[k] = g.level(k);
        }
        for (int k = 0; k < plants; k++) {
            wasOn[k] = g.plantState(k) == CopperDispatch.ON;
            base[k] = g.base(k);
            next[k] = g.scheduled(k);
        }
        for (int k = 0; k < feeders; k++) {
            wasShed[k] = g.isShed(k);
        }
    }

    /** Step 1 for plants: from here on wasOn tells which were ON while the islands were balanced. */
    private void stepPlants() {
        for (int k = 0; k < plants; k++) {
            if (!wasOn[k] && toGo[k] > 0 && g.plantState(k) != CopperDispatch.OFF) {
                toGo[k]--;
                wasOn[k] = toGo[k] == 0;
                int number = k;
                boolean isStarting = toGo[k] > 0;
                C.due(isStarting, () -> g.plantState(number) == CopperDispatch.STARTING);
            } else if (!wasOn[k] && g.plantState(k) == CopperDispatch.OFF && toGo[k] > 0) {
                // Stopped, or ON in this minute and put OFF at once, which only the last of its minutes can bring.
                wasOn[k] = toGo[k] == 1 && g.amount(CopperDispatch.PLANT, k) > 0;
                toGo[k] = 0;
            }
        }
    }

    private void findIslands() {
        for (int node = 0; node < NODES; node++) {
            island[node] = node;
        }
        for (int k = 0; k < lines; k++) {
            carried[k] = state[k] == CopperDispatch.IN || state[k] == CopperDispatch.TRIPPED && heat[k] <= 0.25f;
        }
        for (int round = 0; round < NODES; round++) {
            for (int k = 0; k < lines; k++) {
                if (carried[k]) {
                    int low = Math.min(island[line[k][0]], island[line[k][1]]);
                    island[line[k][0]] = low;
                    island[line[k][1]] = low;
                }
            }
        }
    }

    /** Live by a store's level or a plant that is ON; where one came ON and went OFF in this minute, the price tells. */
    private void findLive() {
        for (int node = 0; node < NODES; node++) {
            isLive[node] = false;
        }
        for (int k = 0; k < plants; k++) {
            isLive[island[plant[k][0]]] |= wasOn[k];
        }
        for (int k = 0; k < stores; k++) {
            isLive[island[store[k][0]]] |= level[k] >= 100;
        }
        for (int node = 0; node < NODES; node++) {
            int at = node;
            if (!mayHavePutOff(island[node])) {
                C.due(isLive[island[node]], () -> g.price(at) != CopperDispatch.NONE);
            }
            isLive[node] = g.price(island[node]) != CopperDispatch.NONE;
            C.due(g.price(island[node]), () -> g.price(at));
        }
    }

    /** Whether a plant of an island may have come ON and gone OFF in one minute, which its state does not tell. */
    private boolean mayHavePutOff(int at) {
        for (int k = 0; k < plants; k++) {
            if (island[plant[k][0]] == at && !wasOn[k] && plant[k][3] > 0) {
                return true;
            }
        }
        return false;
    }

    private void lookAtLine(int k) {
        float load = carried[k] ? (float) Math.abs(g.flow(k)) / (float) line[k][3] : 0f;
        float less = load - heat[k];
        float due = heat[k] + 0.25f * less;
        C.due(due, () -> g.heat(k));
        int kept = state[k];
        int stateDue = !carried[k] ? kept : due > 1f ? CopperDispatch.TRIPPED : CopperDispatch.IN;
        // A crew that ends its work takes the 10 of a DEAD line away.
        boolean isMended = kept == CopperDispatch.DEAD + 10 && g.stateOf(k) == CopperDispatch.DEAD;
        C.due(stateDue, () -> isMended ? kept : g.stateOf(k));
        C.due(g.flow(k), () -> g.flowAnew(k));
        C.due(true, () -> carried[k] || g.flow(k) == 0);
    }

    /** What goes out of a node, less what comes in, is what it has too much; an island has nothing too much. */
    private void lookAtNodes() {
        int[] excess = new int[NODES];
        addAmounts(excess, CopperDispatch.FEEDER, feeder, feeders, -1);
        addAmounts(excess, CopperDispatch.PLANT, plant, plants, 1);
        addAmounts(excess, CopperDispatch.WHEEL, wheel, wheels, 1);
        addAmounts(excess, CopperDispatch.STORE, store, stores, 1);
        int[] out = new int[NODES];
        int[] sums = new int[NODES];
        for (int k = 0; k < lines; k++) {
            out[line[k][0]] += g.flow(k);
            out[line[k][1]] -= g.flow(k);
        }
        for (int node = 0; node < NODES; node++) {
            int at = node;
            sums[island[node]] += excess[node];
            C.due(excess[node], () -> out[at]);
        }
        for (int node = 0; node < NODES; node++) {
            int at = node;
            C.due(0, () -> sums[at]);
        }
    }

    private void addAmounts(int[] excess, int what, int[][] of, int count, int sign) {
        for (int k = 0; k < count; k++) {
            excess[of[k][0]] += sign * g.amount(what, k);
        }
    }

    private boolean livesAt(int node) {
        return isLive[island[node]];
    }

    private void lookAtPlant(int k, boolean isFirst) {
        int made = g.amount(CopperDispatch.PLANT, k);
        boolean isOn = g.plantState(k) == CopperDispatch.ON;
        if (isOn) {
            C.due(true, () -> made >= plant[k][1] && made <= plant[k][2]);
            C.due(true, () -> livesAt(plant[k][0]));
        } else {
            C.due(0, () -> made);
        }
        int before = isFirst ? next[k] : base[k];
        C.due(true, () -> g.base(k) == before || isOn && g.base(k) > before && g.base(k) <= plant[k][2]);
        if (isFirst) {
            C.due(0, () -> g.scheduled(k));
            C.due(true, () -> g.left(k, 0) <= sold[k][0] && g.left(k, 1) <= sold[k][1]);
            int called = sold[k][0] + sold[k][1] - g.left(k, 0) - g.left(k, 1);
            int held = Math.max(plant[k][1], Math.min(plant[k][2], before));
            C.due(called == 0 ? before : held + called, () -> g.base(k));
            sold[k][0] = 0;
            sold[k][1] = 0;
        }
    }

    private void lookAtStore(int k) {
        int given = g.amount(CopperDispatch.STORE, k);
        int rate = store[k][2];
        C.due(level[k] - (given > 0 ? given * 100 : given * (100 - store[k][3])), () -> g.level(k));
        C.due(true, () -> given >= -rate && given <= rate);
        C.due(true, () -> g.level(k) >= 0 && g.level(k) <= 100 * store[k][1]);
        C.due(true, () -> given == 0 || livesAt(store[k][0]));
    }

    private void lookAtWheel(int k) {
        int made = g.amount(CopperDispatch.WHEEL, k);
        C.due(true, () -> made >= 0 && made <= (livesAt(wheel[k][0]) ? blown[k] : 0));
    }

    private void lookAtFeeder(int k) {
        boolean lives = livesAt(feeder[k][0]);
        boolean isShed = g.isShed(k);
        C.due(lives && !isShed ? feeder[k][1] : 0, () -> g.amount(CopperDispatch.FEEDER, k));
        C.due(true, () -> lives || isShed == wasShed[k]);
        C.due(true, () -> wasShed[k] || !isShed || feeder[k][1] > 0);
        C.due(true, () -> !lives || !isShed || g.price(feeder[k][0]) == 1000);
        int price = g.price(feeder[k][0]);
        C.due(true, () -> price != 1000 || hasShed(island[feeder[k][0]]));
    }

    private boolean hasShed(int at) {
        for (int k = 0; k < feeders; k++) {
            if (island[feeder[k][0]] == at && g.isShed(k)) {
                return true;
            }
        }
        return false;
    }

    private void count(int hour) {
        for (int node = 0; node < NODES; node++) {
            prices[node][hour] += Math.max(0, g.price(node));
        }
        pay(CopperDispatch.FEEDER, feeder, feeders, hour);
        pay(CopperDispatch.PLANT, plant, plants, hour);
        pay(CopperDispatch.WHEEL, wheel, wheels, hour);
        pay(CopperDispatch.STORE, store, stores, hour);
        for (int k = 0; k < feeders; k++) {
            int used = g.amount(CopperDispatch.FEEDER, k);
            hasGap[k][hour] |= isBroken[k] && used > 0;
            reading[k][hour] += isBroken[k] ? 0 : used;
        }
    }

    private void pay(int what, int[][] of, int count, int hour) {
        for (int k = 0; k < count; k++) {
            money[what][k][hour] += (long) g.amount(what, k) * Math.max(0, g.price(of[k][0]));
        }
    }

    private void lookAtBills(int hour) {
        int minutes = Math.min(10, g.minute() - hour * 10);
        long open = 0;
        for (int k = 0; k < feeders; k++) {
            int number = k;
            long guess = reading[k][hour] * prices[feeder[k][0]][hour] / minutes;
            long due = hasGap[k][hour] ? guess : money[CopperDispatch.FEEDER][k][hour];
            C.due(reading[k][hour], () -> g.reading(number, hour));
            C.due(due, () -> g.bill(CopperDispatch.FEEDER, number, hour));
            open += due;
        }
        open -= lookAtMoney(CopperDispatch.PLANT, plants, hour);
        open -= lookAtMoney(CopperDispatch.WHEEL, wheels, hour);
        open -= lookAtMoney(CopperDispatch.STORE, stores, hour);
        long openDue = open;
        C.due(openDue, () -> g.open(hour));
        if (isMeterSafe) {
            C.due(0L, () -> g.open(hour));
        }
    }

    private long lookAtMoney(int what, int count, int hour) {
        long sum = 0;
        for (int k = 0; k < count; k++) {
            int number = k;
            C.due(money[what][k][hour], () -> g.bill(what, number, hour));
            sum += money[what][k][hour];
        }
        return sum;
    }
}
