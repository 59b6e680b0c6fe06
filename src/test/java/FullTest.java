/** Nothing yet, and full: 12 lines, 8 plants, 3 steps, 10 feeders, 4 wheels, 3 stores, 400 minutes. */
public final class FullTest {
    private static final Check C = new Check();
    private static final int FEEDER = CopperDispatch.FEEDER;
    private static final int PLANT = CopperDispatch.PLANT;
    private static final int WHEEL = CopperDispatch.WHEEL;
    private static final int STORE = CopperDispatch.STORE;

    private FullTest() { }

    public static void main(String[] args) {
        promise1NothingHasANumberYet();
        promise1NoHourHasBegunYet();
        promise1MarketIsEmpty();
        promise1MinutesPassOverNothing();
        promise2TwelveLines();
        promise9FullNetCarries();
        promise13EightPlants();
        promise18ThreeSteps();
        promise18StepsUpToTheGreatestLoad();
        promise23ReservesUpToTheGreatestLoad();
        promise25TenFeeders();
        promise28FourWheels();
        promise30ThreeStores();
        promise31StoreIsFull();
        promise31StoreIsEmpty();
        promise33FourHundredMinutes();
        promise33NotOneMore();
        promise36FullHours();
        promise5BothCrewsHaveTheirPermits();
        C.end();
    }

    private static void promise1NothingHasANumberYet() {
        CopperDispatch g = new CopperDispatch();
        C.noSuch(() -> g.switchLine(0, true));
        C.noSuch(() -> g.storm(0));
        C.noSuch(() -> g.permit(0, 0, 1));
        C.noSuch(() -> g.stateOf(0));
        C.noSuch(() -> g.heat(0));
        C.noSuch(() -> g.flow(0));
        C.noSuch(() -> g.flowAnew(0));
        C.noSuch(() -> g.start(0));
        C.noSuch(() -> g.stop(0));
        C.noSuch(() -> g.plantState(0));
        C.noSuch(() -> g.base(0));
        C.noSuch(() -> g.offer(0, 0, 1));
        C.noSuch(() -> g.withdraw(0));
        C.noSuch(() -> g.scheduled(0));
        C.noSuch(() -> g.reserve(0, 0, 1, 0));
        C.noSuch(() -> g.left(0, 0));
        C.noSuch(() -> g.setDemand(0, 0));
        C.noSuch(() -> g.isShed(0));
        C.noSuch(() -> g.wind(0, true, 0));
        C.noSuch(() -> g.level(0));
        for (int what = 0; what < 4; what++) {
            int kind = what;
            C.noSuch(() -> g.amount(kind, 0));
        }
        C.noSuch(() -> g.breakMeter(0, true));
        C.badState(() -> g.giveBack(0));
        C.badState(() -> g.giveBack(1));
    }

    private static void promise1NoHourHasBegunYet() {
        CopperDispatch g = Grids.full();
        C.due(0, g::minute);
        C.noSuch(() -> g.reading(0, 0));
        C.noSuch(() -> g.correct(0, 0, 0));
        C.noSuch(() -> g.bill(FEEDER, 0, 0));
        C.noSuch(() -> g.open(0));
        C.due(0, () -> g.amount(PLANT, 0));
        C.due(-1, () -> g.price(0));
        C.due(0, () -> g.flow(0));
        C.due(0, () -> g.flowAnew(0));
        g.pass(1);
        C.due(0, () -> g.reading(0, 0));
        C.due(0L, () -> g.bill(FEEDER, 0, 0));
        C.due(0L, () -> g.open(0));
    }

    private static void promise1MarketIsEmpty() {
        CopperDispatch g = new CopperDispatch();
        C.due(0, g::missing);
        C.due(0, () -> g.clear(0));
        C.due(0, g::missing);
        C.due(0, () -> g.clear(1));
        C.due(1, g::missing);
        C.due(0, () -> g.clear(999));
        C.due(999, g::missing);
    }

    private static void promise1MinutesPassOverNothing() {
        CopperDispatch g = new CopperDispatch();
        C.due(1, () -> g.pass(1));
        C.due(11, () -> g.pass(10));
        C.due(0L, () -> g.open(0));
        C.due(0L, () -> g.open(1));
        for (int n = 0; n < 8; n++) {
            int node = n;
            C.due(-1, () -> g.price(node));
            C.due(node, () -> g.island(node));
        }
        C.noSuch(() -> g.bill(STORE, 0, 0));
    }

    private static void promise2TwelveLines() {
        CopperDispatch g = new CopperDispatch();
        for (int k = 0; k < 12; k++) {
            int number = k;
            C.noSuch(() -> g.stateOf(number));
            C.due(number, () -> g.line(number % 7, 7, 1, 1));
            C.due(0, () -> g.stateOf(number));
        }
        C.badState(() -> g.line(0, 1, 1, 1));
        C.badState(() -> g.line(7, 0, 9, 99));
        C.noSuch(() -> g.stateOf(12));
        // One that is DEAD keeps its number and its place.
        g.switchLine(11, false);
        C.badState(() -> g.line(0, 1, 1, 1));
        C.due(2, () -> g.stateOf(11));
    }

    /** 12 lines between two nodes share 100: 9 for the lowest 4, 8 for the others. */
    private static void promise9FullNetCarries() {
        CopperDispatch g = new CopperDispatch();
        for (int k = 0; k < 12; k++) {
            g.line(k % 2, 1 - k % 2, 1, 99);
        }
        g.plant(0, 0, 99, 0, true);
        g.plant(0, 0, 1, 0, true);
        g.offer(0, 1, 99);
        g.offer(1, 1, 1);
        g.clear(100);
        g.start(0);
        g.start(1);
        g.feeder(1, 60);
        g.feeder(1, 40);
        g.pass(1);
        for (int k = 0; k < 12; k++) {
            int line = k;
            int part = line < 4 ? 9 : 8;
            C.due(line % 2 == 0 ? part : -part, () -> g.flow(line));
            C.due(line % 2 == 0 ? part : -part, () -> g.flowAnew(line));
        }
    }

    private static void promise13EightPlants() {
        CopperDispatch g = new CopperDispatch();
        for (int k = 0; k < 8; k++) {
            int number = k;
            C.noSuch(() -> g.plantState(number));
            C.due(number, () -> g.plant(7 - number, 0, 1, 0, false));
            C.due(0, () -> g.plantState(number));
        }
        C.badState(() -> g.plant(0, 0, 1, 0, true));
        C.noSuch(() -> g.plantState(8));
    }

    private static void promise18ThreeSteps() {
        CopperDispatch g = new CopperDispatch();
        g.plant(0, 0, 99, 0, true);
        g.plant(0, 0, 99, 0, true);
        for (int round = 0; round < 2; round++) {
            C.due(1, () -> g.offer(0, 7, 1));
            C.due(2, () -> g.offer(0, 7, 1));
            C.due(3, () -> g.offer(0, 7, 1));
            C.badState(() -> g.offer(0, 7, 1));
            C.badState(() -> g.offer(0, 999, 1));
            C.due(3, () -> g.withdraw(0));
        }
        // Another plant has its own three.
        g.offer(0, 7, 1);
        C.due(1, () -> g.offer(1, 3, 1));
        C.due(1, () -> g.withdraw(0));
        C.due(2, () -> g.offer(1, 3, 1));
    }

    private static void promise18StepsUpToTheGreatestLoad() {
        CopperDispatch g = new CopperDispatch();
        g.plant(0, 0, 30, 0, true);
        C.badState(() -> g.offer(0, 1, 31));
        C.due(1, () -> g.offer(0, 1, 30));
        C.badState(() -> g.offer(0, 1, 1));
        g.withdraw(0);
        C.due(1, () -> g.offer(0, 1, 10));
        C.badState(() -> g.offer(0, 1, 21));
        C.due(2, () -> g.offer(0, 1, 19));
        C.badState(() -> g.offer(0, 1, 2));
        C.due(3, () -> g.offer(0, 1, 1));
    }

    private static void promise23ReservesUpToTheGreatestLoad() {
        CopperDispatch g = new CopperDispatch();
        g.plant(0, 0, 30, 0, true);
        g.offer(0, 1, 30);
        g.clear(10);
        C.badState(() -> g.reserve(0, 0, 21, 1));
        C.due(15, () -> g.reserve(0, 0, 15, 1));
        C.badState(() -> g.reserve(0, 1, 6, 1));
        C.due(5, () -> g.reserve(0, 1, 5, 1));
        C.badState(() -> g.reserve(0, 0, 1, 1));
        C.badState(() -> g.reserve(0, 1, 1, 1));
        g.clear(30);
        C.badState(() -> g.reserve(0, 0, 1, 1));
        g.clear(29);
        C.due(1, () -> g.reserve(0, 0, 1, 1));
        C.badState(() -> g.reserve(0, 0, 1, 1));
    }

    private static void promise25TenFeeders() {
        CopperDispatch g = new CopperDispatch();
        for (int k = 0; k < 10; k++) {
            int number = k;
            C.noSuch(() -> g.isShed(number));
            C.due(number, () -> g.feeder(number % 8, 60));
            C.due(false, () -> g.isShed(number));
        }
        C.badState(() -> g.feeder(0, 0));
        C.noSuch(() -> g.isShed(10));
    }

    private static void promise28FourWheels() {
        CopperDispatch g = new CopperDispatch();
        for (int k = 0; k < 4; k++) {
            int number = k;
            C.noSuch(() -> g.wind(number, true, 1));
            C.due(number, () -> g.wheel(7));
            C.due(0, () -> g.wind(number, false, 60));
        }
        C.badState(() -> g.wheel(0));
        C.noSuch(() -> g.wind(4, true, 1));
        // All forecasts together.
        g.clear(241);
        C.due(1, g::missing);
    }

    private static void promise30ThreeStores() {
        CopperDispatch g = new CopperDispatch();
        for (int k = 0; k < 3; k++) {
            int number = k;
            C.noSuch(() -> g.level(number));
            C.due(number, () -> g.store(7, 999, 50, 50));
            C.due(0, () -> g.level(number));
        }
        C.badState(() -> g.store(0, 1, 1, 0));
        C.noSuch(() -> g.level(3));
    }

    /** The greatest store takes its rate as long as it can, then what fits, then nothing. */
    private static void promise31StoreIsFull() {
        CopperDispatch g = Grids.one(0, 0);
        g.wheel(0);
        g.wind(0, true, 60);
        g.store(0, 999, 50, 0);
        g.pass(19);
        C.due(95000, () -> g.level(0));
        C.due(-50, () -> g.amount(STORE, 0));
        C.due(50, () -> g.amount(WHEEL, 0));
        g.pass(1);
        C.due(99900, () -> g.level(0));
        C.due(-49, () -> g.amount(STORE, 0));
        g.pass(1);
        C.due(99900, () -> g.level(0));
        C.due(0, () -> g.amount(STORE, 0));
        C.due(0, () -> g.amount(WHEEL, 0));
    }

    private static void promise31StoreIsEmpty() {
        CopperDispatch g = Grids.one(0, 5);
        g.store(0, 9, 9, 0);
        g.pass(1);
        C.due(0, () -> g.level(0));
        C.due(0, () -> g.amount(STORE, 0));
        C.due(true, () -> g.isShed(0));
    }

    private static void promise33FourHundredMinutes() {
        CopperDispatch g = new CopperDispatch();
        C.due(100, () -> g.pass(100));
        C.due(200, () -> g.pass(100));
        C.due(300, () -> g.pass(100));
        C.due(400, () -> g.pass(100));
        C.due(400, g::minute);
        C.badState(() -> g.pass(1));
        C.badState(() -> g.pass(100));
        C.due(400, g::minute);
    }

    private static void promise33NotOneMore() {
        CopperDispatch g = new CopperDispatch();
        g.pass(1);
        for (int k = 0; k < 3; k++) {
            g.pass(100);
        }
        C.badState(() -> g.pass(100));
        C.due(301, g::minute);
        C.due(400, () -> g.pass(99));
        C.badState(() -> g.pass(1));
    }

    /** The last hour of all is an hour as the first one is. */
    private static void promise36FullHours() {
        CopperDispatch g = Grids.one(0, 60);
        for (int k = 0; k < 3; k++) {
            g.pass(100);
        }
        g.pass(80);
        for (int hour = 38; hour < 40; hour++) {
            int now = hour;
            g.clear(99);
            g.setDemand(0, 60);
            g.pass(9);
            C.due(540, () -> g.reading(0, now));
            g.pass(1);
            C.due(600, () -> g.reading(0, now));
            C.due(600L * 8, () -> g.bill(FEEDER, 0, now));
            C.due(600L * 8, () -> g.bill(PLANT, 0, now));
            C.due(0L, () -> g.open(now));
            C.noSuch(() -> g.reading(0, now + 1));
        }
    }

    private static void promise5BothCrewsHaveTheirPermits() {
        CopperDispatch g = Grids.full();
        for (int line = 0; line < 12; line++) {
            g.switchLine(line, false);
        }
        C.due(-1, () -> g.permit(0, 11, 60));
        C.due(0, () -> g.permit(1, 0, 60));
        for (int line = 0; line < 12; line++) {
            int one = line;
            C.badState(() -> g.permit(0, one, 1));
            C.badState(() -> g.permit(1, one, 1));
        }
    }
}
