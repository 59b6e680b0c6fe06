/** Promises 1 to 12: a new object, and the net. */
public final class NetTest {
    private static final Check C = new Check();
    private static final int MIN = Integer.MIN_VALUE;
    private static final int MAX = Integer.MAX_VALUE;

    private NetTest() { }

    public static void main(String[] args) {
        promise1NewObject();
        promise2Line();
        promise3SwitchLine();
        promise4Storm();
        promise5Permit();
        promise6GiveBack();
        promise7StateOf();
        promise8Heat();
        promise8HeatTrips();
        promise9Flow();
        promise9FlowShares();
        promise9FlowPairsByNumbers();
        promise10FlowAnew();
        promise11Island();
        promise9FlowOfStores();
        promise12Price();
        promise12PriceOfSteps();
        C.end();
    }

    /** A plant at one node and a feeder at another one, served from the first minute on. */
    private static CopperDispatch supplied(int plantNode, int feederNode, int demand) {
        CopperDispatch g = new CopperDispatch();
        g.plant(plantNode, 0, 99, 0, true);
        g.feeder(feederNode, demand);
        g.offer(0, 7, 99);
        g.clear(demand);
        g.start(0);
        return g;
    }

    private static void promise1NewObject() {
        CopperDispatch g = new CopperDispatch();
        C.due(0, g::minute);
        C.due(0, g::missing);
        C.noSuch(() -> g.stateOf(0));
        C.noSuch(() -> g.plantState(0));
        C.noSuch(() -> g.isShed(0));
        C.noSuch(() -> g.wind(0, true, 0));
        C.noSuch(() -> g.level(0));
        C.noSuch(() -> g.open(0));
        for (int n = 0; n < 8; n++) {
            int node = n;
            C.due(node, () -> g.island(node));
            C.due(-1, () -> g.price(node));
        }
    }

    private static void promise2Line() {
        CopperDispatch g = new CopperDispatch();
        C.noSuch(() -> g.line(-1, 0, 1, 1));
        C.noSuch(() -> g.line(0, 8, 1, 1));
        C.noSuch(() -> g.line(MIN, MAX, 0, 0));
        C.noSuch(() -> g.line(8, 8, 1, 1));
        C.badArgument(() -> g.line(3, 3, 1, 1));
        C.badArgument(() -> g.line(0, 1, 0, 1));
        C.badArgument(() -> g.line(0, 1, 10, 1));
        C.badArgument(() -> g.line(0, 1, 1, 0));
        C.badArgument(() -> g.line(0, 1, 1, 100));
        C.due(0, () -> g.line(0, 7, 1, 1));
        C.due(1, () -> g.line(7, 0, 9, 99));
        C.due(0, () -> g.stateOf(0));
        for (int k = 2; k < 12; k++) {
            int number = k;
            C.due(number, () -> g.line(1, 2, 5, 50));
        }
        C.badState(() -> g.line(0, 1, 1, 1));
        C.badArgument(() -> g.line(0, 1, 10, 1));
        C.noSuch(() -> g.line(0, 9, 10, 1));
        C.noSuch(() -> g.stateOf(12));
    }

    private static void promise3SwitchLine() {
        CopperDispatch g = new CopperDispatch();
        g.line(0, 1, 1, 1);
        g.line(0, 1, 1, 1);
        C.noSuch(() -> g.switchLine(-1, true));
        C.noSuch(() -> g.switchLine(2, false));
        C.noSuch(() -> g.switchLine(MAX, false));
        C.due(0, () -> g.switchLine(0, true));
        C.due(0, () -> g.switchLine(0, false));
        C.due(2, () -> g.switchLine(0, false));
        C.due(2, () -> g.stateOf(0));
        C.due(0, () -> g.stateOf(1));
        C.due(2, () -> g.switchLine(0, true));
        C.due(0, () -> g.stateOf(0));
        g.storm(0);
        C.badState(() -> g.switchLine(0, true));
        C.due(11, () -> g.stateOf(0));
        C.due(1, () -> g.switchLine(0, false));
        C.due(12, () -> g.stateOf(0));
        C.badState(() -> g.switchLine(0, true));
        g.switchLine(1, false);
        g.permit(0, 1, 1);
        C.badState(() -> g.switchLine(1, true));
        C.due(2, () -> g.switchLine(1, false));
        g.pass(1);
        C.badState(() -> g.switchLine(1, true));
        g.giveBack(0);
        C.due(2, () -> g.switchLine(1, true));
    }

    private static void promise4Storm() {
        CopperDispatch g = new CopperDispatch();
        C.noSuch(() -> g.storm(0));
        g.line(0, 1, 1, 1);
        g.line(1, 2, 1, 1);
        C.noSuch(() -> g.storm(-1));
        C.noSuch(() -> g.storm(2));
        C.due(false, () -> g.storm(0));
        C.due(true, () -> g.storm(0));
        C.due(11, () -> g.stateOf(0));
        g.switchLine(1, false);
        C.due(false, () -> g.storm(1));
        C.due(12, () -> g.stateOf(1));
        g.pass(20);
        C.due(11, () -> g.stateOf(0));
        C.due(12, () -> g.stateOf(1));
    }

    private static void promise5Permit() {
        CopperDispatch g = new CopperDispatch();
        g.line(0, 1, 1, 1);
        g.line(0, 1, 1, 1);
        g.line(0, 1, 1, 1);
        C.noSuch(() -> g.permit(-1, 0, 1));
        C.noSuch(() -> g.permit(2, 0, 0));
        C.noSuch(() -> g.permit(0, 3, 0));
        C.noSuch(() -> g.permit(0, -1, 1));
        C.badArgument(() -> g.permit(0, 0, 0));
        C.badArgument(() -> g.permit(0, 0, 61));
        C.badState(() -> g.permit(0, 0, 1));
        g.storm(0);
        C.badState(() -> g.permit(0, 0, 1));
        g.switchLine(0, false);
        g.switchLine(1, false);
        g.switchLine(2, false);
        C.due(-1, () -> g.permit(1, 0, 60));
        C.badState(() -> g.permit(1, 1, 1));
        C.badState(() -> g.permit(0, 0, 1));
        C.badArgument(() -> g.permit(0, 0, 61));
        C.due(1, () -> g.permit(0, 1, 1));
        g.pass(1);
        C.badState(() -> g.permit(0, 2, 1));
        g.giveBack(0);
        C.due(1, () -> g.permit(0, 2, 1));
        g.pass(58);
        C.due(12, () -> g.stateOf(0));
        g.pass(1);
        C.due(2, () -> g.stateOf(0));
        g.storm(0);
        g.pass(5);
        C.due(12, () -> g.stateOf(0));
        C.due(0, () -> g.giveBack(1));
        C.due(0, () -> g.permit(1, 0, 1));
        g.giveBack(0);
        g.pass(1);
        C.due(2, () -> g.stateOf(0));
        g.giveBack(1);
        C.due(-1, () -> g.permit(0, 0, 1));
    }

    private static void promise6GiveBack() {
        CopperDispatch g = new CopperDispatch();
        g.line(0, 1, 1, 1);
        g.line(0, 1, 1, 1);
        C.noSuch(() -> g.giveBack(-1));
        C.noSuch(() -> g.giveBack(2));
        C.badState(() -> g.giveBack(0));
        C.badState(() -> g.giveBack(1));
        g.switchLine(1, false);
        g.permit(0, 1, 2);
        C.badState(() -> g.giveBack(0));
        C.badState(() -> g.giveBack(1));
        g.pass(1);
        C.badState(() -> g.giveBack(0));
        g.pass(1);
        C.badState(() -> g.giveBack(1));
        C.due(1, () -> g.giveBack(0));
        C.badState(() -> g.giveBack(0));
    }

    private static void promise7StateOf() {
        CopperDispatch g = new CopperDispatch();
        C.noSuch(() -> g.stateOf(0));
        g.line(0, 1, 1, 1);
        C.noSuch(() -> g.stateOf(-1));
        C.noSuch(() -> g.stateOf(1));
        C.due(0, () -> g.stateOf(0));
        g.storm(0);
        C.due(11, () -> g.stateOf(0));
        g.switchLine(0, false);
        g.permit(0, 0, 3);
        C.due(12, () -> g.stateOf(0));
        g.pass(2);
        C.due(12, () -> g.stateOf(0));
        g.pass(1);
        C.due(2, () -> g.stateOf(0));
    }

    private static void promise8Heat() {
        CopperDispatch g = supplied(0, 1, 8);
        C.noSuch(() -> g.heat(0));
        g.line(1, 0, 1, 10);
        C.due(0f, () -> g.heat(0));
        C.noSuch(() -> g.heat(1));
        C.noSuch(() -> g.heat(-1));
        float due = 0f;
        for (int k = 0; k < 9; k++) {
            g.pass(1);
            due = due + 0.25f * (8f / 10f - due);
            float now = due;
            C.due(now, () -> g.heat(0));
        }
        g.switchLine(0, false);
        g.pass(1);
        float cooler = due + 0.25f * (0f - due);
        C.due(cooler, () -> g.heat(0));
        C.due(2, () -> g.stateOf(0));
    }

    private static void promise8HeatTrips() {
        CopperDispatch g = supplied(0, 1, 40);
        g.line(0, 1, 1, 10);
        g.pass(1);
        C.due(1f, () -> g.heat(0));
        C.due(0, () -> g.stateOf(0));
        g.pass(1);
        C.due(1.75f, () -> g.heat(0));
        C.due(1, () -> g.stateOf(0));
        C.due(40, () -> g.flow(0));
        float heat = 1.75f;
        for (int k = 0; k < 6; k++) {
            g.pass(1);
            heat = heat + 0.25f * (0f - heat);
            C.due(1, () -> g.stateOf(0));
            C.due(0, () -> g.flow(0));
        }
        float before = heat;
        C.due(before, () -> g.heat(0));
        g.pass(1);
        float warm = heat + 0.25f * (0f - heat);
        C.due(warm <= 0.25f, () -> true);
        C.due(1, () -> g.stateOf(0));
        g.pass(1);
        // It was IN for this minute, and is TRIPPED anew at its end.
        C.due(1, () -> g.stateOf(0));
        C.due(40, () -> g.flow(0));
        C.due(warm + 0.25f * (4f - warm), () -> g.heat(0));
        g.storm(0);
        g.pass(30);
        C.due(11, () -> g.stateOf(0));
    }

    private static void promise9Flow() {
        CopperDispatch g = supplied(2, 1, 5);
        C.noSuch(() -> g.flow(0));
        g.line(1, 2, 1, 10);
        C.noSuch(() -> g.flow(-1));
        C.noSuch(() -> g.flow(1));
        C.due(0, () -> g.flow(0));
        g.pass(1);
        C.due(-5, () -> g.flow(0));
        g.switchLine(0, false);
        C.due(-5, () -> g.flow(0));
        g.pass(1);
        C.due(0, () -> g.flow(0));
    }

    /** Two lines of the same length, then a fork: what comes by both is shared there together. */
    private static void promise9FlowShares() {
        CopperDispatch g = supplied(0, 3, 7);
        g.line(0, 1, 1, 99);
        g.line(2, 0, 2, 99);
        g.line(1, 3, 2, 99);
        g.line(2, 3, 1, 99);
        g.line(0, 1, 1, 99);
        g.line(0, 3, 4, 99);
        g.pass(1);
        C.due(3, () -> g.flow(0));
        C.due(-2, () -> g.flow(1));
        C.due(5, () -> g.flow(2));
        C.due(2, () -> g.flow(3));
        C.due(2, () -> g.flow(4));
        C.due(0, () -> g.flow(5));
        for (int k = 0; k < 6; k++) {
            int line = k;
            C.due(g.flow(line), () -> g.flowAnew(line));
        }
        CopperDispatch h = supplied(0, 4, 9);
        h.line(0, 1, 1, 99);
        h.line(0, 2, 1, 99);
        h.line(1, 3, 1, 99);
        h.line(2, 3, 1, 99);
        h.line(3, 4, 1, 99);
        h.line(3, 4, 1, 99);
        h.pass(1);
        int[] due = {5, 4, 5, 4, 5, 4};
        for (int k = 0; k < 6; k++) {
            int line = k;
            C.due(due[line], () -> h.flow(line));
            C.due(due[line], () -> h.flowAnew(line));
        }
    }

    /** Nodes 1 and 4 send to nodes 0 and 5: 1 to 0 first, what is over to 5. */
    private static void promise9FlowPairsByNumbers() {
        CopperDispatch g = new CopperDispatch();
        for (int node = 0; node < 5; node++) {
            g.line(node, node + 1, 1, 99);
        }
        g.wheel(1);
        g.wheel(4);
        g.wind(0, true, 10);
        g.wind(1, true, 6);
        g.plant(3, 0, 1, 0, true);
        g.start(0);
        g.feeder(0, 4);
        g.feeder(5, 12);
        g.pass(1);
        int[] due = {-4, 6, 6, 6, 12};
        for (int k = 0; k < 5; k++) {
            int line = k;
            C.due(due[line], () -> g.flow(line));
            C.due(due[line], () -> g.flowAnew(line));
        }
        g.switchLine(1, false);
        g.pass(1);
        C.due(0, () -> g.flow(0));
        C.due(0, () -> g.flow(1));
        g.plant(0, 0, 1, 0, true);
        g.start(1);
        g.pass(1);
        C.due(-4, () -> g.flow(0));
        C.due(0, () -> g.flow(1));
    }

    /** A store takes in over a line, and gives back over it, at the last node. */
    private static void promise9FlowOfStores() {
        CopperDispatch g = supplied(0, 6, 3);
        g.line(7, 0, 1, 99);
        g.line(7, 6, 1, 99);
        g.store(7, 9, 2, 10);
        g.wheel(7);
        g.wind(0, true, 3);
        g.pass(1);
        C.due(-2, () -> g.flow(0));
        C.due(3, () -> g.flow(1));
        C.due(180, () -> g.level(0));
        g.wind(0, true, 1);
        g.setDemand(0, 2);
        g.stop(0);
        g.pass(1);
        C.due(0, () -> g.flow(0));
        C.due(2, () -> g.flow(1));
        C.due(1, () -> g.amount(CopperDispatch.STORE, 0));
        C.due(80, () -> g.level(0));
    }

    private static void promise10FlowAnew() {
        CopperDispatch g = supplied(2, 1, 5);
        C.noSuch(() -> g.flowAnew(0));
        g.line(1, 2, 1, 10);
        C.noSuch(() -> g.flowAnew(-1));
        C.noSuch(() -> g.flowAnew(1));
        C.due(0, () -> g.flowAnew(0));
        g.pass(1);
        C.due(-5, () -> g.flowAnew(0));
        g.switchLine(0, false);
        g.line(1, 2, 1, 10);
        g.setDemand(0, 3);
        C.due(-5, () -> g.flowAnew(0));
        C.due(0, () -> g.flowAnew(1));
        g.pass(1);
        C.due(0, () -> g.flowAnew(0));
        C.due(-3, () -> g.flow(1));
        C.due(-3, () -> g.flowAnew(1));
    }

    private static void promise11Island() {
        CopperDispatch g = new CopperDispatch();
        C.noSuch(() -> g.island(-1));
        C.noSuch(() -> g.island(8));
        C.noSuch(() -> g.island(MIN));
        for (int k = 7; k > 0; k--) {
            g.line(k, k - 1, 9, 1);
        }
        C.due(0, () -> g.island(7));
        g.switchLine(3, false);
        C.due(4, () -> g.island(7));
        C.due(0, () -> g.island(3));
        g.storm(0);
        C.due(7, () -> g.island(7));
        C.due(4, () -> g.island(6));
        g.line(7, 1, 1, 1);
        C.due(0, () -> g.island(7));
    }

    private static void promise12Price() {
        CopperDispatch g = supplied(0, 1, 5);
        g.line(0, 1, 1, 99);
        C.noSuch(() -> g.price(-1));
        C.noSuch(() -> g.price(8));
        C.due(-1, () -> g.price(0));
        g.pass(1);
        C.due(7, () -> g.price(0));
        C.due(7, () -> g.price(1));
        C.due(-1, () -> g.price(2));
        g.switchLine(0, false);
        C.due(7, () -> g.price(1));
        g.pass(1);
        C.due(0, () -> g.price(0));
        C.due(-1, () -> g.price(1));
        g.switchLine(0, true);
        g.setDemand(0, 0);
        g.pass(1);
        C.due(0, () -> g.price(1));
        g.setDemand(0, 60);
        g.pass(1);
        C.due(1000, () -> g.price(0));
    }

    /** A plant uses the steps that its load needs, from the first one on, the last one perhaps in part. */
    private static void promise12PriceOfSteps() {
        CopperDispatch g = new CopperDispatch();
        g.plant(7, 0, 50, 0, true);
        g.feeder(7, 1);
        g.offer(0, 3, 10);
        g.offer(0, 40, 10);
        g.offer(0, 50, 10);
        g.clear(30);
        g.start(0);
        int[][] due = {{0, 0}, {1, 3}, {10, 3}, {11, 40}, {20, 40}, {21, 50}, {30, 50}, {31, 1000}};
        for (int[] one : due) {
            g.setDemand(0, one[0]);
            g.pass(1);
            C.due(one[1], () -> g.price(7));
        }
        // Scheduled plants that are not ON use nothing; the price of a reserve is that told last.
        CopperDispatch h = new CopperDispatch();
        h.plant(0, 0, 50, 0, true);
        h.plant(0, 0, 50, 0, true);
        h.offer(0, 90, 10);
        h.reserve(1, 0, 1, 30);
        h.reserve(1, 0, 1, 20);
        h.reserve(1, 1, 1, 60);
        h.start(1);
        h.feeder(0, 2);
        h.pass(1);
        C.due(20, () -> h.price(0));
        h.setDemand(0, 3);
        h.pass(1);
        C.due(60, () -> h.price(0));
        h.setDemand(0, 0);
        h.pass(1);
        C.due(60, () -> h.price(0));
        h.stop(1);
        h.start(0);
        h.pass(1);
        C.due(0, () -> h.price(0));
        h.start(1);
        h.pass(1);
        C.due(60, () -> h.price(0));
    }
}
