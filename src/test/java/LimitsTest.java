/** Everything as many times as the document allows, in one minute or one clearing. */
public final class LimitsTest {
    private static final Check C = new Check();
    private static final int PLANT = CopperDispatch.PLANT;

    private LimitsTest() { }

    public static void main(String[] args) {
        allStepsAreTaken();
        allPlantsAreOut();
        allPlantsGoOff();
        allReservesAreCalled();
        fullPlantIsNotCalled();
        allFeedersAreShed();
        allNodesInOneWay();
        longestRun();
        C.end();
    }

    private static CopperDispatch plants(int least, int most) {
        CopperDispatch g = new CopperDispatch();
        for (int k = 0; k < 8; k++) {
            g.plant(0, least, most, 0, true);
            g.start(k);
        }
        return g;
    }

    /** 24 steps, then all plants make less, down to nothing. */
    private static void allStepsAreTaken() {
        CopperDispatch g = plants(0, 30);
        for (int step = 0; step < 3; step++) {
            for (int k = 0; k < 8; k++) {
                g.offer(k, 10 * step + k, 1);
            }
        }
        C.due(27, () -> g.clear(24));
        C.due(0, g::missing);
        for (int k = 0; k < 8; k++) {
            int plant = k;
            C.due(3, () -> g.scheduled(plant));
        }
        C.due(26, () -> g.clear(23));
        C.due(2, () -> g.scheduled(7));
        g.clear(999);
        C.due(975, g::missing);
        g.feeder(0, 0);
        g.pass(1);
        for (int k = 0; k < 8; k++) {
            int plant = k;
            C.due(0, () -> g.amount(PLANT, plant));
            C.due(2, () -> g.plantState(plant));
        }
    }

    private static void allPlantsAreOut() {
        CopperDispatch g = plants(10, 30);
        for (int k = 0; k < 8; k++) {
            g.offer(k, k, 9);
        }
        C.due(0, () -> g.clear(999));
        C.due(999, g::missing);
        for (int k = 0; k < 8; k++) {
            int plant = k;
            C.due(0, () -> g.scheduled(plant));
        }
    }

    private static void allPlantsGoOff() {
        CopperDispatch g = plants(10, 30);
        g.pass(1);
        for (int k = 0; k < 8; k++) {
            int plant = k;
            C.due(0, () -> g.plantState(plant));
            C.due(0, () -> g.amount(PLANT, plant));
        }
        C.due(0, () -> g.price(0));
    }

    private static void allReservesAreCalled() {
        CopperDispatch g = plants(0, 30);
        for (int k = 0; k < 8; k++) {
            g.reserve(k, 0, 1, k);
            g.reserve(k, 1, 1, k);
        }
        g.feeder(0, 8);
        g.pass(1);
        for (int k = 0; k < 8; k++) {
            int plant = k;
            C.due(0, () -> g.left(plant, 0));
            C.due(1, () -> g.left(plant, 1));
        }
        g.setDemand(0, 16);
        g.pass(1);
        for (int k = 0; k < 8; k++) {
            int plant = k;
            C.due(0, () -> g.left(plant, 1));
        }
        C.due(false, () -> g.isShed(0));
    }

    /** A plant at its greatest load has a reserve that cannot be called, and its price does not count. */
    private static void fullPlantIsNotCalled() {
        CopperDispatch g = new CopperDispatch();
        g.plant(0, 10, 10, 0, true);
        g.plant(0, 0, 10, 0, true);
        g.reserve(0, 0, 5, 500);
        g.reserve(1, 0, 5, 501);
        g.start(0);
        g.start(1);
        g.feeder(0, 12);
        g.pass(1);
        C.due(5, () -> g.left(0, 0));
        C.due(3, () -> g.left(1, 0));
        C.due(0, () -> g.base(0));
        g.stop(1);
        g.setDemand(0, 10);
        g.pass(1);
        C.due(0, () -> g.price(0));
    }

    private static void allFeedersAreShed() {
        CopperDispatch g = plants(0, 30);
        for (int k = 0; k < 10; k++) {
            g.feeder(0, 60);
        }
        g.pass(1);
        for (int k = 0; k < 10; k++) {
            int feeder = k;
            C.due(true, () -> g.isShed(feeder));
        }
        for (int k = 0; k < 10; k++) {
            g.setDemand(k, 0);
        }
        // One comes back a minute, in the order in which they were shed.
        for (int k = 0; k < 10; k++) {
            int last = k;
            g.pass(1);
            C.due(false, () -> g.isShed(last));
            C.due(last < 9, () -> g.isShed(9));
        }
    }

    private static void allNodesInOneWay() {
        CopperDispatch g = new CopperDispatch();
        int[] order = {3, 7, 0, 5, 1, 6, 2, 4};
        for (int k = 6; k >= 0; k--) {
            g.line(order[k], order[k + 1], 9, 99);
        }
        g.plant(3, 0, 9, 0, true);
        g.offer(0, 1, 9);
        g.clear(9);
        g.start(0);
        g.feeder(4, 9);
        g.pass(1);
        for (int k = 0; k < 7; k++) {
            int line = k;
            C.due(9, () -> g.flow(line));
            C.due(9, () -> g.flowAnew(line));
        }
    }

    private static void longestRun() {
        CopperDispatch g = new CopperDispatch();
        g.plant(0, 0, 99, 0, true);
        g.feeder(0, 60);
        g.start(0);
        g.pass(100);
        g.pass(100);
        g.pass(100);
        g.breakMeter(0, true);
        for (int k = 0; k < 100; k++) {
            g.clear(999);
            g.reserve(0, 1, 99, 999);
            g.pass(1);
        }
        C.due(400, g::minute);
        C.due(0L, () -> g.bill(CopperDispatch.FEEDER, 0, 39));
        C.due(0, () -> g.reading(0, 39));
        C.due(600 * 9990L / 10, () -> g.bill(PLANT, 0, 39));
        C.due(-600 * 9990L / 10, () -> g.open(39));
        C.due(0, () -> g.correct(0, 39, 600));
        C.due(0L, () -> g.open(39));
    }
}
