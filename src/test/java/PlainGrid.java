import java.util.ArrayList;
import java.util.Comparator;
import java.util.List;

/**
 * The document told a second time, as plainly as it goes and without a thought for room or speed: every minute is
 * kept, bills are added up from that, a round of balancing that fails is thrown away with its copies. RandomTest
 * holds CopperDispatch against it.
 */
final class PlainGrid {
    static final class Wire {
        int one, other, length, limit, state, flow;
        boolean damaged;
        float heat;
    }

    static final class Generator {
        int node, least, most, start, state, toGo, base, planned, load;
        boolean black;
        List<int[]> steps = new ArrayList<>();
        int[] next = new int[2], nextPrice = new int[2], now = new int[2], nowPrice = new int[2];
        boolean[] called = new boolean[2];

        int last() {
            return steps.isEmpty() ? 0 : steps.get(steps.size() - 1)[0];
        }
    }

    static final class Customer {
        int node, demand, used;
        boolean shed, broken;
        int latest = -1;
        Integer[] corrected = new Integer[40];
    }

    static final class Mill {
        int node, forecast, actual, made;
    }

    static final class Tank {
        int node, room, rate, loss, level, gave;
    }

    /** One minute as it was. */
    record Past(int[] price, int[] used, boolean[] broken, int[] made, int[] blown, int[] gave) { }

    final List<Wire> wires = new ArrayList<>();
    final List<Generator> generators = new ArrayList<>();
    final List<Customer> customers = new ArrayList<>();
    final List<Mill> mills = new ArrayList<>();
    final List<Tank> tanks = new ArrayList<>();
    final List<Past> past = new ArrayList<>();
    final int[] crewLine = {-1, -1};
    final int[] crewToGo = {0, 0};
    int missing = 0;
    int shedClock = 0;

    static void index(boolean ok) {
        if (!ok) {
            throw new IndexOutOfBoundsException();
        }
    }

    static void argument(boolean ok) {
        if (!ok) {
            throw new IllegalArgumentException();
        }
    }

    static void state(boolean ok) {
        if (!ok) {
            throw new IllegalStateException();
        }
    }

    static boolean within(int x, int low, int high) {
        return x >= low && x <= high;
    }

    static <T> T of(List<T> list, int k) {
        index(within(k, 0, list.size() - 1));
        return list.get(k);
    }

    static void node(int n) {
        index(within(n, 0, 7));
    }

    void hour(int h) {
        index(h >= 0 && (long) h * 10 < past.size());
    }

    // ---- the net

    public int line(int one, int other, int length, int limit) {
        node(one);
        node(other);
        argument(one != other && within(length, 1, 9) && within(limit, 1, 99));
        state(wires.size() < 12);
        Wire w = new Wire();
        w.one = one;
        w.other = other;
        w.length = length;
        w.limit = limit;
        wires.add(w);
        return wires.size() - 1;
    }

    public int switchLine(int line, boolean isIn) {
        Wire w = of(wires, line);
        state(!isIn || !w.damaged && crewLine[0] != line && crewLine[1] != line);
        int was = w.state;
        w.state = isIn ? 0 : 2;
        return was;
    }

    public boolean storm(int line) {
        Wire w = of(wires, line);
        boolean was = w.damaged;
        w.damaged = true;
        if (w.state == 0) {
            w.state = 1;
        }
        return was;
    }

    public int permit(int crew, int line, int minutes) {
        index(within(crew, 0, 1));
        Wire w = of(wires, line);
        argument(within(minutes, 1, 60));
        state(crewLine[crew] == -1 && w.state == 2 && crewLine[1 - crew] != line);
        crewLine[crew] = line;
        crewToGo[crew] = minutes;
        return crewLine[1 - crew] == -1 ? -1 : 1 - crew;
    }

    public int giveBack(int crew) {
        index(within(crew, 0, 1));
        state(crewLine[crew] != -1 && crewToGo[crew] == 0);
        int line = crewLine[crew];
        crewLine[crew] = -1;
        return line;
    }

    public int stateOf(int line) {
        Wire w = of(wires, line);
        return w.damaged ? 10 + w.state : w.state;
    }

    public float heat(int line) {
        return of(wires, line).heat;
    }

    public int flow(int line) {
        return of(wires, line).flow;
    }

    public int flowAnew(int line) {
        return of(wires, line).flow;
    }

    public int island(int node) {
        node(node);
        boolean[] seen = new boolean[8];
        visit(node, seen);
        for (int n = 0; n < 8; n++) {
            if (seen[n]) {
                return n;
            }
        }
        throw new AssertionError();
    }

    private void visit(int n, boolean[] seen) {
        seen[n] = true;
        for (Wire w : wires) {
            if (w.state == 0 && (w.one == n || w.other == n)) {
                int m = w.one + w.other - n;
                if (!seen[m]) {
                    visit(m, seen);
                }
            }
        }
    }

    public int price(int node) {
        node(node);
        return past.isEmpty() ? -1 : past.get(past.size() - 1).price[node];
    }

    // ---- plants

    public int plant(int node, int least, int most, int start, boolean isBlack) {
        node(node);
        argument(within(least, 0, 50) && within(most, least, 99) && most >= 1 && within(start, 0, 30));
        state(generators.size() < 8);
        Generator g = new Generator();
        g.node = node;
        g.least = least;
        g.most = most;
        g.start = start;
        g.black = isBlack;
        generators.add(g);
        return generators.size() - 1;
    }

    boolean live(int island) {
        return generators.stream().anyMatch(g -> g.state == 2 && island(g.node) == island)
            || tanks.stream().anyMatch(t -> t.level >= 100 && island(t.node) == island);
    }

    public int start(int plant) {
        Generator g = of(generators, plant);
        state(g.state == 0);
        state(g.black || live(island(g.node)));
        g.state = g.start == 0 ? 2 : 1;
        g.toGo = g.start;
        return g.start;
    }

    public int stop(int plant) {
        Generator g = of(generators, plant);
        int was = g.state;
        g.state = 0;
        return was;
    }

    public int plantState(int plant) {
        return of(generators, plant).state;
    }

    public int base(int plant) {
        return of(generators, plant).base;
    }

    // ---- market and reserves

    public int offer(int plant, int price, int amount) {
        Generator g = of(generators, plant);
        argument(within(price, 0, 999) && within(amount, 1, 99));
        state(g.steps.size() < 3);
        state(g.steps.isEmpty() || price >= g.last());
        state(g.steps.stream().mapToInt(s -> s[1]).sum() + amount <= g.most);
        g.steps.add(new int[] {price, amount});
        return g.steps.size();
    }

    public int withdraw(int plant) {
        Generator g = of(generators, plant);
        int had = g.steps.size();
        g.steps.clear();
        return had;
    }

    public int clear(int demand) {
        argument(within(demand, 0, 999));
        int wanted = Math.max(0, demand - mills.stream().mapToInt(m -> m.forecast).sum());
        boolean[] out = new boolean[8];
        while (true) {
            List<int[]> all = new ArrayList<>();
            for (int p = 0; p < generators.size(); p++) {
                generators.get(p).next = new int[2];
                generators.get(p).planned = 0;
                for (int s = 0; s < generators.get(p).steps.size() && !out[p]; s++) {
                    int[] step = generators.get(p).steps.get(s);
                    all.add(new int[] {step[0], p, s, step[1]});
                }
            }
            all.sort(Comparator.<int[]>comparingInt(a -> a[0]).thenComparingInt(a -> a[1]).thenComparingInt(a -> a[2]));
            int price = 0;
            int still = wanted;
            for (int[] step : all) {
                int taken = Math.min(still, step[3]);
                still -= taken;
                generators.get(step[1]).planned += taken;
                price = taken > 0 ? step[0] : price;
            }
            int bad = 0;
            while (bad < generators.size()
                && (generators.get(bad).planned == 0 || generators.get(bad).planned >= generators.get(bad).least)) {
                bad++;
            }
            if (bad == generators.size()) {
                missing = still;
                return price;
            }
            out[bad] = true;
        }
    }

    public int missing() {
        return missing;
    }

    public int scheduled(int plant) {
        return of(generators, plant).planned;
    }

    public int reserve(int plant, int of, int amount, int price) {
        Generator g = of(generators, plant);
        argument(within(of, 0, 1) && within(amount, 1, 99) && within(price, 0, 999));
        state(g.planned + g.next[0] + g.next[1] + amount <= g.most);
        g.next[of] += amount;
        g.nextPrice[of] = price;
        return g.next[of];
    }

    public int left(int plant, int of) {
        Generator g = of(generators, plant);
        argument(within(of, 0, 1));
        return g.now[of];
    }

    // ---- feeders, wheels, stores

    public int feeder(int node, int demand) {
        node(node);
        argument(within(demand, 0, 60));
        state(customers.size() < 10);
        Customer c = new Customer();
        c.node = node;
        c.demand = demand;
        customers.add(c);
        return customers.size() - 1;
    }

    public int setDemand(int feeder, int demand) {
        Customer c = of(customers, feeder);
        argument(within(demand, 0, 60));
        int was = c.demand;
        c.demand = demand;
        return was;
    }

    public boolean isShed(int feeder) {
        return of(customers, feeder).shed;
    }

    public int wheel(int node) {
        node(node);
        state(mills.size() < 4);
        Mill m = new Mill();
        m.node = node;
        mills.add(m);
        return mills.size() - 1;
    }

    public int wind(int wheel, boolean isActual, int amount) {
        Mill m = of(mills, wheel);
        argument(within(amount, 0, 60));
        int was = isActual ? m.actual : m.forecast;
        if (isActual) {
            m.actual = amount;
        } else {
            m.forecast = amount;
        }
        return was;
    }

    public int store(int node, int room, int rate, int loss) {
        node(node);
        argument(within(room, 1, 999) && within(rate, 1, 50) && within(loss, 0, 50));
        state(tanks.size() < 3);
        Tank t = new Tank();
        t.node = node;
        t.room = room;
        t.rate = rate;
        t.loss = loss;
        tanks.add(t);
        return tanks.size() - 1;
    }

    public int level(int store) {
        return of(tanks, store).level;
    }

    public int amount(int what, int which) {
        if (what == 0) {
            return of(customers, which).used;
        }
        if (what == 1) {
            return of(generators, which).load;
        }
        if (what == 2) {
            return of(mills, which).made;
        }
        argument(what == 3);
        return of(tanks, which).gave;
    }

    // ---- minutes and bills

    public int pass(int minutes) {
        argument(within(minutes, 1, 100));
        state(past.size() + minutes <= 400);
        for (int k = 0; k < minutes; k++) {
            one();
        }
        return past.size();
    }

    public int minute() {
        return past.size();
    }

    public boolean breakMeter(int feeder, boolean isBroken) {
        Customer c = of(customers, feeder);
        boolean was = c.broken;
        c.broken = isBroken;
        return was;
    }

    private List<Past> minutesOf(int h) {
        return past.subList(h * 10, Math.min(past.size(), h * 10 + 10));
    }

    private static int at(int[] row, int k) {
        return k < row.length ? row[k] : 0;
    }

    public int reading(int feeder, int hour) {
        Customer c = of(customers, feeder);
        hour(hour);
        if (c.corrected[hour] != null) {
            return c.corrected[hour];
        }
        return minutesOf(hour).stream().mapToInt(m -> at(m.used, feeder) > 0 && m.broken[feeder] ? 0 : at(m.used, feeder))
            .sum();
    }

    private boolean gap(int feeder, int hour) {
        return minutesOf(hour).stream().anyMatch(m -> at(m.used, feeder) > 0 && m.broken[feeder]);
    }

    public int correct(int feeder, int hour, int reading) {
        Customer c = of(customers, feeder);
        hour(hour);
        argument(within(reading, 0, 600));
        state(past.size() >= hour * 10 + 10);
        state(gap(feeder, hour));
        state(c.corrected[hour] == null);
        int was = reading(feeder, hour);
        c.corrected[hour] = reading;
        return was;
    }

    public long bill(int what, int which, int hour) {
        hour(hour);
        List<Past> minutes = minutesOf(hour);
        if (what == 0) {
            int node = of(customers, which).node;
            if (gap(which, hour)) {
                long sum = minutes.stream().mapToLong(m -> Math.max(0, m.price[node])).sum();
                return Math.floorDiv(reading(which, hour) * sum, (long) minutes.size());
            }
            return minutes.stream().mapToLong(m -> (long) at(m.used, which) * m.price[node]).sum();
        }
        if (what == 1) {
            int node = of(generators, which).node;
            return minutes.stream().mapToLong(m -> (long) at(m.made, which) * m.price[node]).sum();
        }
        if (what == 2) {
            int node = of(mills, which).node;
            return minutes.stream().mapToLong(m -> (long) at(m.blown, which) * m.price[node]).sum();
        }
        argument(what == 3);
        int node = of(tanks, which).node;
        return minutes.stream().mapToLong(m -> (long) at(m.gave, which) * m.price[node]).sum();
    }

    public long open(int hour) {
        hour(hour);
        long sum = 0;
        for (int k = 0; k < customers.size(); k++) {
            sum += bill(0, k, hour);
        }
        for (int k = 0; k < generators.size(); k++) {
            sum -= bill(1, k, hour);
        }
        for (int k = 0; k < mills.size(); k++) {
            sum -= bill(2, k, hour);
        }
        for (int k = 0; k < tanks.size(); k++) {
            sum -= bill(3, k, hour);
        }
        return sum;
    }

    // ---- one minute

    private void one() {
        if (past.size() % 10 == 0) {
            for (Generator g : generators) {
                g.base = g.planned;
                g.planned = 0;
                g.now = g.next;
                g.nowPrice = g.nextPrice;
                g.next = new int[2];
                g.nextPrice = new int[2];
                g.called = new boolean[2];
            }
        }
        for (Generator g : generators) {
            if (g.state == 1 && --g.toGo == 0) {
                g.state = 2;
            }
        }
        for (int c = 0; c < 2; c++) {
            if (crewLine[c] != -1 && crewToGo[c] > 0 && --crewToGo[c] == 0) {
                wires.get(crewLine[c]).damaged = false;
            }
        }
        for (Wire w : wires) {
            if (w.state == 1 && !w.damaged && w.heat <= 0.25f) {
                w.state = 0;
            }
        }
        int[] price = new int[8];
        for (int n = 0; n < 8; n++) {
            price[n] = island(n) == n ? new Round(n).price() : price[island(n)];
        }
        flows();
        for (Wire w : wires) {
            float x = w.state == 0 ? (float) Math.abs(w.flow) / (float) w.limit : 0;
            float less = x - w.heat;
            float part = 0.25f * less;
            w.heat = w.heat + part;
            if (w.state == 0 && w.heat > 1) {
                w.state = 1;
            }
        }
        boolean[] broken = new boolean[customers.size()];
        for (int k = 0; k < broken.length; k++) {
            broken[k] = customers.get(k).broken;
        }
        past.add(new Past(price, customers.stream().mapToInt(c -> c.used).toArray(), broken,
            generators.stream().mapToInt(g -> g.load).toArray(), mills.stream().mapToInt(m -> m.made).toArray(),
            tanks.stream().mapToInt(t -> t.gave).toArray()));
    }

    /** One island in one minute. */
    private final class Round {
        final int island;
        final List<Generator> gs;
        final List<Customer> cs;
        final List<Mill> ms;
        final List<Tank> ts;

        Round(int island) {
            this.island = island;
            gs = generators.stream().filter(g -> island(g.node) == island).toList();
            cs = customers.stream().filter(c -> island(c.node) == island).toList();
            ms = mills.stream().filter(m -> island(m.node) == island).toList();
            ts = tanks.stream().filter(t -> island(t.node) == island).toList();
        }

        List<Generator> running() {
            return gs.stream().filter(g -> g.state == 2).toList();
        }

        int demand() {
            return cs.stream().filter(c -> !c.shed).mapToInt(c -> c.demand).sum();
        }

        int held(Generator g) {
            return g.base < g.least ? g.least : g.base > g.most ? g.most : g.base;
        }

        int gives(Tank t) {
            return Math.min(t.rate, t.level / 100);
        }

        int takes(Tank t) {
            int q = 0;
            while (q < t.rate && t.level + (q + 1) * (100 - t.loss) <= 100 * t.room) {
                q++;
            }
            return q;
        }

        int price() {
            if (!live(island)) {
                gs.forEach(g -> g.load = 0);
                cs.forEach(c -> c.used = 0);
                ms.forEach(m -> m.made = 0);
                ts.forEach(t -> t.gave = 0);
                return -1;
            }
            again();
            while (!attempt()) {
                continue;
            }
            cs.forEach(c -> c.used = c.shed ? 0 : c.demand);
            for (Tank t : ts) {
                t.level -= t.gave > 0 ? t.gave * 100 : t.gave * (100 - t.loss);
            }
            if (cs.stream().anyMatch(c -> c.shed)) {
                return 1000;
            }
            int price = 0;
            for (Generator g : running()) {
                int covered = 0;
                for (int[] step : g.steps) {
                    if (covered < g.load) {
                        price = Math.max(price, step[0]);
                    }
                    covered += step[1];
                }
                for (int k = 0; k < 2; k++) {
                    price = Math.max(price, g.called[k] ? g.nowPrice[k] : 0);
                }
            }
            return price;
        }

        void again() {
            int room = running().stream().mapToInt(g -> Math.min(g.most, held(g) + g.now[0] + g.now[1])).sum()
                + ms.stream().mapToInt(m -> m.actual).sum() + ts.stream().mapToInt(this::gives).sum();
            cs.stream().filter(c -> c.shed).min(Comparator.comparingInt(c -> c.latest))
                .filter(c -> c.demand <= room - demand()).ifPresent(c -> c.shed = false);
        }

        boolean attempt() {
            int[] bases = gs.stream().mapToInt(g -> g.base).toArray();
            int[][] lefts = gs.stream().map(g -> g.now.clone()).toArray(int[][]::new);
            boolean[][] calls = gs.stream().map(g -> g.called.clone()).toArray(boolean[][]::new);
            int[] latest = cs.stream().mapToInt(c -> c.latest).toArray();
            List<Customer> shed = cs.stream().filter(c -> c.shed).toList();
            if (tryBalance()) {
                return true;
            }
            running().stream().max(Comparator.comparingInt(Generator::last).thenComparingInt(generators::indexOf))
                .orElseThrow().state = 0;
            for (int k = 0; k < gs.size(); k++) {
                gs.get(k).base = bases[k];
                gs.get(k).now = lefts[k];
                gs.get(k).called = calls[k];
            }
            for (int k = 0; k < cs.size(); k++) {
                cs.get(k).latest = latest[k];
                cs.get(k).shed = shed.contains(cs.get(k));
            }
            return false;
        }

        boolean tryBalance() {
            gs.forEach(g -> g.load = g.state == 2 ? held(g) : 0);
            ms.forEach(m -> m.made = m.actual);
            ts.forEach(t -> t.gave = 0);
            for (int k = 0; k < 2; k++) {
                int of = k;
                running().stream().sorted(Comparator.comparingInt(g -> g.nowPrice[of])).forEach(g -> call(g, of));
            }
            for (Tank t : ts) {
                t.gave = Math.max(0, Math.min(-surplus(), gives(t)));
            }
            while (surplus() < 0) {
                Customer next = cs.stream().filter(c -> !c.shed && c.demand > 0)
                    .min(Comparator.comparingInt(c -> c.latest)).orElseThrow();
                next.shed = true;
                next.latest = shedClock++;
            }
            for (Tank t : ts) {
                if (t.gave == 0) {
                    t.gave = -Math.min(surplus(), takes(t));
                }
            }
            running().stream().sorted(Comparator.comparingInt(Generator::last).thenComparingInt(generators::indexOf)
                .reversed()).forEach(g -> g.load -= Math.min(surplus(), g.load - g.least));
            for (Mill m : ms) {
                m.made -= Math.min(surplus(), m.made);
            }
            for (Tank t : ts) {
                t.gave -= t.gave > 0 ? Math.min(surplus(), t.gave) : 0;
            }
            return surplus() == 0;
        }

        void call(Generator g, int of) {
            int called = Math.min(Math.min(-surplus(), g.now[of]), g.most - g.load);
            if (called > 0) {
                g.now[of] -= called;
                g.called[of] = true;
                g.load += called;
                g.base = g.load;
            }
        }

        int surplus() {
            return gs.stream().mapToInt(g -> g.load).sum() + ms.stream().mapToInt(m -> m.made).sum()
                + ts.stream().mapToInt(t -> t.gave).sum() - demand();
        }
    }

    private void flows() {
        int[] has = new int[8];
        generators.forEach(g -> has[g.node] += g.load);
        mills.forEach(m -> has[m.node] += m.made);
        tanks.forEach(t -> has[t.node] += t.gave);
        customers.forEach(c -> has[c.node] -= c.used);
        wires.forEach(w -> w.flow = 0);
        int[][] far = distances();
        for (int s = 0; s < 8; s++) {
            for (int t = 0; t < 8; t++) {
                int q = Math.min(has[s], -has[t]);
                if (q > 0 && island(s) == island(t)) {
                    has[s] -= q;
                    has[t] += q;
                    send(s, t, q, far);
                }
            }
        }
    }

    private int[][] distances() {
        int[][] far = new int[8][8];
        for (int a = 0; a < 8; a++) {
            for (int b = 0; b < 8; b++) {
                far[a][b] = a == b ? 0 : 9999;
            }
        }
        for (Wire w : wires) {
            if (w.state == 0) {
                far[w.one][w.other] = Math.min(far[w.one][w.other], w.length);
                far[w.other][w.one] = far[w.one][w.other];
            }
        }
        for (int k = 0; k < 8; k++) {
            for (int a = 0; a < 8; a++) {
                for (int b = 0; b < 8; b++) {
                    far[a][b] = Math.min(far[a][b], far[a][k] + far[k][b]);
                }
            }
        }
        return far;
    }

    private void send(int s, int t, int q, int[][] far) {
        int[] here = new int[8];
        here[s] = q;
        for (int d = 80; d > 0; d--) {
            for (int n = 0; n < 8; n++) {
                if (far[n][t] == d && here[n] > 0) {
                    List<Wire> ways = new ArrayList<>();
                    for (Wire w : wires) {
                        if (w.state == 0 && (w.one == n || w.other == n) && far[w.one + w.other - n][t] + w.length == d) {
                            ways.add(w);
                        }
                    }
                    for (int k = 0; k < ways.size(); k++) {
                        Wire w = ways.get(k);
                        int part = (here[n] + ways.size() - 1 - k) / ways.size();
                        w.flow += w.one == n ? part : -part;
                        here[w.one + w.other - n] += part;
                    }
                    here[n] = 0;
                }
            }
        }
        if (here[t] != q) {
            throw new AssertionError("lost on the way");
        }
    }
}
