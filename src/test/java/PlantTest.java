/** Promises 13 to 24: plants, the market and reserves. */
public final class PlantTest {
    private static final Check C = new Check();
    private static final int MIN = Integer.MIN_VALUE;
    private static final int MAX = Integer.MAX_VALUE;

    private PlantTest() { }

    public static void main(String[] args) {
        promise13Plant();
        promise14Start();
        promise15Stop();
        promise16PlantState();
        promise17Base();
        promise18Offer();
        promise19Withdraw();
        promise20Clear();
        promise20ClearPutsOut();
        promise21Missing();
        promise22Scheduled();
        promise23Reserve();
        promise24Left();
        promise24CallsInOrder();
        C.end();
    }

    private static void promise13Plant() {
        CopperDispatch g = new CopperDispatch();
        C.noSuch(() -> g.plant(-1, 0, 1, 0, true));
        C.noSuch(() -> g.plant(8, 60, 1, 0, true));
        C.badArgument(() -> g.plant(0, -1, 1, 0, true));
        C.badArgument(() -> g.plant(0, 51, 99, 0, true));
        C.badArgument(() -> g.plant(0, 10, 9, 0, true));
        C.badArgument(() -> g.plant(0, 0, 0, 0, true));
        C.badArgument(() -> g.plant(0, 0, 100, 0, true));
        C.badArgument(() -> g.plant(0, 0, 1, -1, true));
        C.badArgument(() -> g.plant(0, 0, 1, 31, true));
        C.badArgument(() -> g.plant(0, MIN, MAX, MAX, true));
        C.due(0, () -> g.plant(7, 50, 50, 30, false));
        C.due(1, () -> g.plant(0, 0, 1, 0, true));
        C.due(0, () -> g.plantState(0));
        for (int k = 2; k < 8; k++) {
            int number = k;
            C.due(number, () -> g.plant(1, 5, 99, 3, true));
        }
        C.badState(() -> g.plant(1, 5, 99, 3, true));
        C.badArgument(() -> g.plant(1, 5, 100, 3, true));
        C.noSuch(() -> g.plant(9, 5, 100, 3, true));
    }

    private static void promise14Start() {
        CopperDispatch g = new CopperDispatch();
        C.noSuch(() -> g.start(0));
        g.plant(0, 0, 10, 0, true);
        g.plant(1, 0, 10, 2, false);
        g.plant(1, 0, 10, 1, true);
        C.noSuch(() -> g.start(-1));
        C.noSuch(() -> g.start(3));
        C.badState(() -> g.start(1));
        C.due(0, () -> g.start(0));
        C.due(2, () -> g.plantState(0));
        C.badState(() -> g.start(0));
        C.badState(() -> g.start(1));
        C.due(1, () -> g.start(2));
        C.due(1, () -> g.plantState(2));
        C.badState(() -> g.start(2));
        C.badState(() -> g.start(1));
        g.line(0, 1, 1, 1);
        C.due(2, () -> g.start(1));
        g.pass(1);
        C.due(2, () -> g.plantState(2));
        C.due(1, () -> g.plantState(1));
        g.pass(1);
        C.due(2, () -> g.plantState(1));
        g.stop(1);
        g.stop(2);
        g.switchLine(0, false);
        C.badState(() -> g.start(1));
        startsByStore();
    }

    /** A level of 100 makes an island live, one of 99 does not. */
    private static void startsByStore() {
        for (int loss = 0; loss < 2; loss++) {
            CopperDispatch g = new CopperDispatch();
            g.plant(0, 0, 10, 0, true);
            g.plant(0, 0, 10, 4, false);
            g.store(0, 5, 1, loss);
            g.wheel(0);
            g.wind(0, true, 1);
            g.start(0);
            g.pass(1);
            g.stop(0);
            int level = 100 - loss;
            C.due(level, () -> g.level(0));
            if (loss == 0) {
                C.due(4, () -> g.start(1));
            } else {
                C.badState(() -> g.start(1));
            }
        }
    }

    private static void promise15Stop() {
        CopperDispatch g = new CopperDispatch();
        C.noSuch(() -> g.stop(0));
        g.plant(0, 3, 10, 0, true);
        g.plant(0, 0, 10, 2, true);
        C.noSuch(() -> g.stop(-1));
        C.noSuch(() -> g.stop(2));
        C.due(0, () -> g.stop(0));
        g.start(0);
        g.start(1);
        g.pass(1);
        C.due(1, () -> g.stop(1));
        C.due(0, () -> g.stop(1));
        g.start(0);
        C.due(2, () -> g.stop(0));
        C.due(0, () -> g.plantState(0));
        g.start(1);
        g.pass(1);
        C.due(1, () -> g.plantState(1));
        g.pass(1);
        C.due(2, () -> g.plantState(1));
    }

    private static void promise16PlantState() {
        CopperDispatch g = new CopperDispatch();
        C.noSuch(() -> g.plantState(0));
        g.plant(0, 3, 10, 3, true);
        C.noSuch(() -> g.plantState(-1));
        C.noSuch(() -> g.plantState(1));
        C.due(0, () -> g.plantState(0));
        g.start(0);
        g.pass(2);
        C.due(1, () -> g.plantState(0));
        g.pass(1);
        // It came ON and, with nobody to use its least load, went OFF in the same minute.
        C.due(0, () -> g.plantState(0));
        C.due(0, () -> g.price(0));
        g.pass(1);
        C.due(-1, () -> g.price(0));
    }

    private static void promise17Base() {
        CopperDispatch g = new CopperDispatch();
        C.noSuch(() -> g.base(0));
        g.plant(0, 4, 30, 0, true);
        C.noSuch(() -> g.base(-1));
        C.noSuch(() -> g.base(1));
        g.offer(0, 5, 30);
        g.feeder(0, 12);
        g.clear(10);
        C.due(0, () -> g.base(0));
        g.reserve(0, 1, 9, 50);
        g.start(0);
        g.pass(1);
        C.due(12, () -> g.base(0));
        C.due(7, () -> g.left(0, 1));
        g.setDemand(0, 5);
        g.pass(1);
        C.due(12, () -> g.base(0));
        C.due(5, () -> g.amount(CopperDispatch.PLANT, 0));
        g.pass(8);
        C.due(12, () -> g.base(0));
        g.setDemand(0, 4);
        g.pass(1);
        C.due(0, () -> g.base(0));
        C.due(4, () -> g.amount(CopperDispatch.PLANT, 0));
        g.clear(6);
        g.pass(9);
        C.due(0, () -> g.base(0));
        g.stop(0);
        g.pass(1);
        C.due(6, () -> g.base(0));
    }

    private static void promise18Offer() {
        CopperDispatch g = new CopperDispatch();
        C.noSuch(() -> g.offer(0, 1, 1));
        g.plant(0, 0, 99, 0, true);
        g.plant(0, 0, 20, 0, true);
        C.noSuch(() -> g.offer(-1, -1, 1));
        C.noSuch(() -> g.offer(2, 1, 0));
        C.badArgument(() -> g.offer(0, -1, 1));
        C.badArgument(() -> g.offer(0, 1000, 1));
        C.badArgument(() -> g.offer(0, 0, 0));
        C.badArgument(() -> g.offer(0, 0, 100));
        C.due(1, () -> g.offer(0, 5, 1));
        C.badState(() -> g.offer(0, 4, 1));
        C.due(2, () -> g.offer(0, 5, 1));
        C.due(3, () -> g.offer(0, 999, 97));
        C.badState(() -> g.offer(0, 999, 1));
        C.badArgument(() -> g.offer(0, 1000, 1));
        C.badState(() -> g.offer(1, 0, 21));
        C.due(1, () -> g.offer(1, 0, 19));
        C.badState(() -> g.offer(1, 0, 2));
        C.due(2, () -> g.offer(1, 0, 1));
        C.badState(() -> g.offer(1, 0, 1));
        C.badState(() -> g.offer(1, MAX - MAX, 99));
    }

    private static void promise19Withdraw() {
        CopperDispatch g = new CopperDispatch();
        C.noSuch(() -> g.withdraw(0));
        g.plant(0, 0, 99, 0, true);
        g.feeder(0, 3);
        C.noSuch(() -> g.withdraw(-1));
        C.noSuch(() -> g.withdraw(1));
        C.due(0, () -> g.withdraw(0));
        g.offer(0, 50, 10);
        g.offer(0, 60, 10);
        g.clear(15);
        C.due(2, () -> g.withdraw(0));
        C.due(15, () -> g.scheduled(0));
        C.due(0, () -> g.withdraw(0));
        g.start(0);
        g.pass(1);
        C.due(15, () -> g.base(0));
        C.due(0, () -> g.price(0));
        C.due(1, () -> g.offer(0, 10, 99));
        g.pass(1);
        C.due(10, () -> g.price(0));
    }

    private static void promise20Clear() {
        CopperDispatch g = new CopperDispatch();
        C.badArgument(() -> g.clear(-1));
        C.badArgument(() -> g.clear(1000));
        C.due(0, () -> g.clear(999));
        C.due(999, g::missing);
        g.plant(0, 0, 60, 0, true);
        g.plant(0, 0, 60, 0, true);
        g.offer(0, 20, 10);
        g.offer(0, 30, 10);
        g.offer(1, 10, 10);
        g.offer(1, 20, 10);
        C.due(0, () -> g.clear(0));
        C.due(10, () -> g.clear(10));
        C.due(20, () -> g.clear(11));
        C.due(1, () -> g.scheduled(0));
        C.due(10, () -> g.scheduled(1));
        C.due(20, () -> g.clear(30));
        C.due(10, () -> g.scheduled(0));
        C.due(20, () -> g.scheduled(1));
        C.due(30, () -> g.clear(31));
        g.wheel(3);
        g.wheel(4);
        g.wind(0, false, 7);
        g.wind(1, false, 8);
        g.wind(1, true, 60);
        C.due(10, () -> g.clear(25));
        C.due(0, () -> g.clear(15));
        C.due(0, () -> g.clear(3));
        C.due(0, g::missing);
    }

    private static void promise20ClearPutsOut() {
        CopperDispatch g = new CopperDispatch();
        g.plant(0, 15, 60, 0, true);
        g.plant(0, 20, 60, 0, true);
        g.plant(0, 0, 60, 0, true);
        g.offer(0, 10, 10);
        g.offer(1, 11, 25);
        g.offer(2, 90, 40);
        // 0 has 10 and 1 has 5: both below their least; 0 is out, then 1 has 15 and is out too.
        C.due(90, () -> g.clear(15));
        C.due(0, () -> g.scheduled(0));
        C.due(0, () -> g.scheduled(1));
        C.due(15, () -> g.scheduled(2));
        // 0 is out, then 1 has 20, which is enough.
        C.due(11, () -> g.clear(20));
        C.due(0, () -> g.scheduled(0));
        C.due(20, () -> g.scheduled(1));
        C.due(0, () -> g.scheduled(2));
        C.due(90, () -> g.clear(70));
        C.due(25, () -> g.scheduled(1));
        C.due(5, g::missing);
        C.due(0, () -> g.plantState(1));
    }

    private static void promise21Missing() {
        CopperDispatch g = new CopperDispatch();
        C.due(0, g::missing);
        g.plant(0, 0, 60, 0, true);
        g.offer(0, 10, 10);
        g.clear(17);
        C.due(7, g::missing);
        C.badArgument(() -> g.clear(1000));
        C.due(7, g::missing);
        g.pass(11);
        C.due(7, g::missing);
        g.clear(4);
        C.due(0, g::missing);
    }

    private static void promise22Scheduled() {
        CopperDispatch g = new CopperDispatch();
        C.noSuch(() -> g.scheduled(0));
        g.plant(0, 0, 60, 0, true);
        C.noSuch(() -> g.scheduled(1));
        C.noSuch(() -> g.scheduled(-1));
        C.due(0, () -> g.scheduled(0));
        g.offer(0, 10, 10);
        g.clear(7);
        C.due(7, () -> g.scheduled(0));
        g.pass(1);
        C.due(0, () -> g.scheduled(0));
        g.clear(9);
        g.pass(9);
        C.due(9, () -> g.scheduled(0));
        C.due(7, () -> g.base(0));
        g.pass(1);
        C.due(9, () -> g.base(0));
        g.pass(10);
        C.due(0, () -> g.base(0));
    }

    private static void promise23Reserve() {
        CopperDispatch g = new CopperDispatch();
        C.noSuch(() -> g.reserve(0, 0, 1, 0));
        g.plant(0, 0, 30, 0, true);
        C.noSuch(() -> g.reserve(-1, 2, 1, 0));
        C.noSuch(() -> g.reserve(1, 0, 0, 0));
        C.badArgument(() -> g.reserve(0, -1, 1, 0));
        C.badArgument(() -> g.reserve(0, 2, 1, 0));
        C.badArgument(() -> g.reserve(0, 0, 0, 0));
        C.badArgument(() -> g.reserve(0, 0, 100, 0));
        C.badArgument(() -> g.reserve(0, 0, 1, -1));
        C.badArgument(() -> g.reserve(0, 0, 1, 1000));
        C.badState(() -> g.reserve(0, 0, 31, 0));
        C.due(30, () -> g.reserve(0, 1, 30, 999));
        C.badState(() -> g.reserve(0, 0, 1, 0));
        g.offer(0, 10, 20);
        g.clear(12);
        C.badState(() -> g.reserve(0, 0, 19, 0));
        C.due(8, () -> g.reserve(0, 0, 8, 0));
        C.due(9, () -> g.reserve(0, 0, 1, 40));
        C.badState(() -> g.reserve(0, 1, 10, 0));
        C.due(9, () -> g.reserve(0, 1, 9, 0));
        C.badState(() -> g.reserve(0, 1, 1, 0));
        g.pass(1);
        C.due(9, () -> g.left(0, 0));
        C.due(9, () -> g.left(0, 1));
        C.due(30, () -> g.reserve(0, 0, 30, 7));
        C.due(9, () -> g.left(0, 0));
        g.clear(0);
        C.due(5, () -> g.reserve(0, 0, 5, 7));
        C.due(25, () -> g.reserve(0, 1, 25, 7));
    }

    private static void promise24Left() {
        CopperDispatch g = new CopperDispatch();
        C.noSuch(() -> g.left(0, 5));
        g.plant(0, 10, 30, 0, true);
        C.noSuch(() -> g.left(1, 0));
        C.noSuch(() -> g.left(-1, 0));
        C.badArgument(() -> g.left(0, -1));
        C.badArgument(() -> g.left(0, 2));
        g.feeder(0, 25);
        g.start(0);
        g.reserve(0, 0, 12, 90);
        g.reserve(0, 1, 18, 3);
        C.due(0, () -> g.left(0, 0));
        g.pass(1);
        C.due(0, () -> g.left(0, 0));
        C.due(15, () -> g.left(0, 1));
        C.due(25, () -> g.base(0));
        C.due(90, () -> g.price(0));
        g.setDemand(0, 40);
        g.pass(1);
        // Its greatest load allows 5 more; what was called is undone, as the feeder is shed and the plant goes OFF.
        C.due(15, () -> g.left(0, 1));
        C.due(25, () -> g.base(0));
        C.due(0, () -> g.plantState(0));
        C.due(true, () -> g.isShed(0));
        g.setDemand(0, 30);
        g.start(0);
        g.pass(1);
        C.due(10, () -> g.left(0, 1));
        C.due(30, () -> g.base(0));
        g.pass(8);
        C.due(0, () -> g.left(0, 1));
    }

    /** Class 0 first, then by price, then by plant, each as far as is needed. */
    private static void promise24CallsInOrder() {
        CopperDispatch g = new CopperDispatch();
        for (int plant = 0; plant < 4; plant++) {
            g.plant(plant, 0, 20, 0, true);
            g.start(plant);
        }
        g.line(0, 1, 1, 99);
        g.line(1, 2, 1, 99);
        g.line(2, 3, 1, 99);
        g.reserve(0, 1, 3, 1);
        g.reserve(1, 0, 4, 60);
        g.reserve(2, 0, 5, 50);
        g.reserve(3, 0, 6, 40);
        g.reserve(3, 0, 1, 50);
        g.feeder(1, 10);
        g.pass(1);
        C.due(0, () -> g.left(2, 0));
        C.due(2, () -> g.left(3, 0));
        C.due(4, () -> g.left(1, 0));
        C.due(3, () -> g.left(0, 1));
        C.due(50, () -> g.price(1));
        g.setDemand(0, 17);
        g.pass(1);
        C.due(0, () -> g.left(1, 0));
        C.due(2, () -> g.left(0, 1));
        C.due(60, () -> g.price(1));
        g.stop(1);
        g.setDemand(0, 1);
        g.pass(1);
        C.due(50, () -> g.price(1));
        C.due(2, () -> g.left(0, 1));
    }
}
