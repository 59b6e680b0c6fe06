/** Promises 25 to 32: feeders, wheels and stores, and with them how an island is balanced. */
public final class UnitTest {
    private static final Check C = new Check();
    private static final int FEEDER = CopperDispatch.FEEDER;
    private static final int PLANT = CopperDispatch.PLANT;
    private static final int WHEEL = CopperDispatch.WHEEL;
    private static final int STORE = CopperDispatch.STORE;
    private static final int MIN = Integer.MIN_VALUE;
    private static final int MAX = Integer.MAX_VALUE;

    private UnitTest() { }

    public static void main(String[] args) {
        promise25Feeder();
        promise26SetDemand();
        promise27IsShedByTurns();
        promise27IsServedAgain();
        promise27RoomCountsAll();
        promise28Wheel();
        promise29Wind();
        promise30Store();
        promise31LevelTaken();
        promise31LevelGiven();
        promise32Amount();
        promise32MakesLessInOrder();
        promise32DearestGoesOff();
        promise32UndoneSheddingCountsNot();
        promise32StoresThatGiveTakeNothing();
        promise32NotLive();
        C.end();
    }

    /** A grid of one node with a running plant whose base is its greatest load, for the first hour. */
    private static CopperDispatch running(int least, int most) {
        CopperDispatch g = new CopperDispatch();
        g.plant(0, least, most, 0, true);
        g.offer(0, 5, most);
        g.clear(most);
        g.start(0);
        return g;
    }

    private static void promise25Feeder() {
        CopperDispatch g = new CopperDispatch();
        C.noSuch(() -> g.feeder(-1, 0));
        C.noSuch(() -> g.feeder(8, -1));
        C.badArgument(() -> g.feeder(0, -1));
        C.badArgument(() -> g.feeder(0, 61));
        C.due(0, () -> g.feeder(7, 60));
        C.due(false, () -> g.isShed(0));
        for (int k = 1; k < 10; k++) {
            int number = k;
            C.due(number, () -> g.feeder(0, 0));
        }
        C.badState(() -> g.feeder(0, 0));
        C.badArgument(() -> g.feeder(0, 61));
        C.noSuch(() -> g.feeder(8, 61));
    }

    private static void promise26SetDemand() {
        CopperDispatch g = running(0, 99);
        C.noSuch(() -> g.setDemand(0, 1));
        g.feeder(0, 7);
        C.noSuch(() -> g.setDemand(-1, 61));
        C.noSuch(() -> g.setDemand(1, 1));
        C.badArgument(() -> g.setDemand(0, -1));
        C.badArgument(() -> g.setDemand(0, 61));
        g.pass(1);
        C.due(7, () -> g.amount(FEEDER, 0));
        C.due(7, () -> g.setDemand(0, 60));
        C.due(7, () -> g.amount(FEEDER, 0));
        g.pass(1);
        C.due(60, () -> g.amount(FEEDER, 0));
        C.due(60, () -> g.setDemand(0, 0));
        g.pass(1);
        C.due(0, () -> g.amount(FEEDER, 0));
    }

    private static void promise27IsShedByTurns() {
        CopperDispatch g = running(0, 20);
        C.noSuch(() -> g.isShed(0));
        g.feeder(0, 0);
        g.feeder(0, 10);
        g.feeder(0, 10);
        g.feeder(0, 10);
        C.noSuch(() -> g.isShed(-1));
        C.noSuch(() -> g.isShed(4));
        // 30 of 20: the lowest one with a demand goes, and finds no room as long as all want as much.
        for (int k = 0; k < 3; k++) {
            g.pass(1);
            shed(g, false, true, false, false);
        }
        g.setDemand(1, 0);
        g.pass(1);
        shed(g, false, false, false, false);
        g.setDemand(1, 10);
        g.pass(1);
        shed(g, false, false, true, false);
        g.setDemand(2, 0);
        g.pass(1);
        shed(g, false, false, false, false);
        g.setDemand(2, 10);
        g.setDemand(0, 5);
        g.pass(1);
        // 0 and 3 were never shed: 0 first, then 3.
        shed(g, true, false, false, true);
        g.setDemand(0, 0);
        g.setDemand(3, 0);
        g.pass(2);
        shed(g, false, false, false, false);
        g.setDemand(0, 1);
        g.setDemand(3, 1);
        g.pass(1);
        // All were shed: 1 ahead of the others.
        shed(g, false, true, false, false);
    }

    private static void shed(CopperDispatch g, boolean... due) {
        for (int k = 0; k < due.length; k++) {
            int feeder = k;
            C.due(due[k], () -> g.isShed(feeder));
        }
    }

    private static void promise27IsServedAgain() {
        CopperDispatch g = running(0, 20);
        g.feeder(0, 12);
        g.feeder(0, 12);
        g.feeder(0, 4);
        g.pass(1);
        // 28 of 20: 0 is shed.
        shed(g, true, false, false);
        C.due(1000, () -> g.price(0));
        g.setDemand(2, 20);
        g.pass(1);
        // 32 of 20: 1 is shed too, and only 2 is served.
        shed(g, true, true, false);
        g.setDemand(2, 9);
        g.pass(1);
        // 0 was shed ahead of 1; it does not fit, so neither does 1, however small.
        g.setDemand(1, 1);
        g.pass(1);
        shed(g, true, true, false);
        g.setDemand(2, 8);
        g.pass(1);
        // 12 fits exactly beside 8; 1 has to wait for its own minute, and then has no room.
        shed(g, false, true, false);
        g.pass(1);
        shed(g, false, true, false);
        g.setDemand(2, 7);
        g.pass(1);
        shed(g, false, false, false);
        C.due(5, () -> g.price(0));
    }

    /** The room is of plants with their reserves, but not more than their greatest load, of wind and of stores. */
    private static void promise27RoomCountsAll() {
        for (int tooMuch = 0; tooMuch < 2; tooMuch++) {
            CopperDispatch g = new CopperDispatch();
            g.plant(0, 10, 30, 0, true);
            g.wheel(0);
            g.store(0, 9, 4, 0);
            g.feeder(0, 0);
            g.feeder(0, 10);
            g.start(0);
            g.wind(0, true, 4);
            g.pass(1);
            C.due(400, () -> g.level(0));
            g.wind(0, true, 0);
            g.setDemand(0, 60);
            g.pass(9);
            shed(g, true, false);
            C.due(400, () -> g.level(0));
            g.reserve(0, 0, 18, 1);
            g.reserve(0, 1, 12, 2);
            g.wind(0, true, 14);
            g.setDemand(0, 38 + tooMuch);
            g.pass(1);
            // 30 of the plant, 14 and 4, less 10.
            shed(g, tooMuch == 1, false);
            C.due(tooMuch == 1 ? 18 : 0, () -> g.left(0, 0));
            C.due(tooMuch == 1 ? 12 : 10, () -> g.left(0, 1));
            C.due(tooMuch == 1 ? 800 : 0, () -> g.level(0));
        }
    }

    private static void promise28Wheel() {
        CopperDispatch g = new CopperDispatch();
        C.noSuch(() -> g.wheel(-1));
        C.noSuch(() -> g.wheel(8));
        for (int k = 0; k < 4; k++) {
            int number = k;
            C.due(number, () -> g.wheel(number));
            C.due(0, () -> g.wind(number, true, 0));
            C.due(0, () -> g.wind(number, false, 0));
        }
        C.badState(() -> g.wheel(0));
        C.noSuch(() -> g.wheel(MAX));
    }

    private static void promise29Wind() {
        CopperDispatch g = new CopperDispatch();
        C.noSuch(() -> g.wind(0, true, 1));
        g.wheel(0);
        g.plant(0, 0, 1, 0, true);
        g.start(0);
        g.feeder(0, 30);
        C.noSuch(() -> g.wind(-1, true, 61));
        C.noSuch(() -> g.wind(1, true, 1));
        C.badArgument(() -> g.wind(0, true, -1));
        C.badArgument(() -> g.wind(0, false, 61));
        C.due(0, () -> g.wind(0, true, 60));
        C.due(0, () -> g.wind(0, false, 8));
        C.due(60, () -> g.wind(0, true, 30));
        C.due(8, () -> g.wind(0, false, 9));
        g.clear(20);
        C.due(11, g::missing);
        g.pass(1);
        C.due(30, () -> g.amount(WHEEL, 0));
        C.due(false, () -> g.isShed(0));
        C.due(30, () -> g.wind(0, true, 29));
        g.pass(1);
        C.due(0, () -> g.amount(WHEEL, 0));
        C.due(true, () -> g.isShed(0));
    }

    private static void promise30Store() {
        CopperDispatch g = new CopperDispatch();
        C.noSuch(() -> g.store(-1, 1, 1, 0));
        C.noSuch(() -> g.store(8, 0, 1, 0));
        C.badArgument(() -> g.store(0, 0, 1, 0));
        C.badArgument(() -> g.store(0, 1000, 1, 0));
        C.badArgument(() -> g.store(0, 1, 0, 0));
        C.badArgument(() -> g.store(0, 1, 51, 0));
        C.badArgument(() -> g.store(0, 1, 1, -1));
        C.badArgument(() -> g.store(0, 1, 1, 51));
        C.due(0, () -> g.store(0, 1, 1, 0));
        C.due(0, () -> g.level(0));
        C.due(1, () -> g.store(7, 999, 50, 50));
        C.due(2, () -> g.store(7, 999, 50, 50));
        C.badState(() -> g.store(0, 1, 1, 0));
        C.badArgument(() -> g.store(0, 0, 1, 0));
        C.noSuch(() -> g.store(-1, 0, 1, 0));
    }

    private static void promise31LevelTaken() {
        CopperDispatch g = running(0, 1);
        C.noSuch(() -> g.level(0));
        g.wheel(0);
        g.wind(0, true, 10);
        g.store(0, 10, 4, 50);
        g.store(0, 3, 50, 30);
        C.noSuch(() -> g.level(-1));
        C.noSuch(() -> g.level(2));
        g.pass(1);
        // 11 are there: 4 for the first, 4 for the other one, which has room for 300 by 70 each.
        C.due(200, () -> g.level(0));
        C.due(280, () -> g.level(1));
        C.due(-4, () -> g.amount(STORE, 1));
        g.pass(1);
        C.due(400, () -> g.level(0));
        C.due(280, () -> g.level(1));
        g.pass(2);
        C.due(800, () -> g.level(0));
        g.pass(1);
        C.due(1000, () -> g.level(0));
        g.pass(1);
        C.due(1000, () -> g.level(0));
        C.due(0, () -> g.amount(STORE, 0));
    }

    private static void promise31LevelGiven() {
        CopperDispatch g = running(0, 1);
        g.wheel(0);
        g.wind(0, true, 9);
        g.store(0, 10, 4, 5);
        g.store(0, 10, 3, 0);
        g.clear(0);
        g.pass(1);
        C.due(380, () -> g.level(0));
        C.due(300, () -> g.level(1));
        g.wind(0, true, 0);
        g.feeder(0, 5);
        g.stop(0);
        g.pass(1);
        C.due(80, () -> g.level(0));
        C.due(3, () -> g.amount(STORE, 0));
        C.due(100, () -> g.level(1));
        C.due(2, () -> g.amount(STORE, 1));
        C.due(5, () -> g.amount(FEEDER, 0));
        g.setDemand(0, 1);
        g.pass(1);
        C.due(80, () -> g.level(0));
        C.due(0, () -> g.level(1));
        g.pass(1);
        C.due(-1, () -> g.price(0));
        C.due(0, () -> g.amount(FEEDER, 0));
    }

    private static void promise32Amount() {
        CopperDispatch g = running(0, 99);
        for (int what = 0; what < 4; what++) {
            int kind = what;
            if (kind != PLANT) {
                C.noSuch(() -> g.amount(kind, 0));
            }
            C.noSuch(() -> g.amount(kind, -1));
            C.noSuch(() -> g.amount(kind, 20));
        }
        C.badArgument(() -> g.amount(-1, 0));
        C.badArgument(() -> g.amount(4, 0));
        C.badArgument(() -> g.amount(MIN, 0));
        g.feeder(0, 30);
        g.wheel(0);
        g.store(0, 9, 6, 0);
        g.wind(0, true, 5);
        for (int what = 0; what < 4; what++) {
            int kind = what;
            C.due(0, () -> g.amount(kind, 0));
        }
        g.pass(1);
        C.due(30, () -> g.amount(FEEDER, 0));
        C.due(31, () -> g.amount(PLANT, 0));
        C.due(5, () -> g.amount(WHEEL, 0));
        C.due(-6, () -> g.amount(STORE, 0));
        g.stop(0);
        C.due(31, () -> g.amount(PLANT, 0));
        g.setDemand(0, 7);
        g.feeder(0, 3);
        C.due(0, () -> g.amount(FEEDER, 1));
        g.pass(1);
        C.due(0, () -> g.amount(PLANT, 0));
        C.due(5, () -> g.amount(STORE, 0));
        C.due(7, () -> g.amount(FEEDER, 0));
        C.due(3, () -> g.amount(FEEDER, 1));
    }

    /** Stores take in, then plants make less, the dearest first, of equal ones the highest, then wheels. */
    private static void promise32MakesLessInOrder() {
        CopperDispatch g = new CopperDispatch();
        int[] prices = {20, 30, 30, 10};
        for (int k = 0; k < 4; k++) {
            g.plant(0, 2, 10, 0, true);
            g.offer(k, 1, 1);
            g.offer(k, prices[k], 9);
            g.start(k);
        }
        g.clear(40);
        g.wheel(0);
        g.wheel(0);
        g.wind(0, true, 6);
        g.wind(1, true, 6);
        g.store(0, 500, 5, 0);
        g.feeder(0, 46);
        g.pass(1);
        made(g, 10, 10, 9, 10, 6, 6, -5);
        C.due(30, () -> g.price(0));
        g.setDemand(0, 36);
        g.pass(1);
        made(g, 10, 7, 2, 10, 6, 6, -5);
        g.setDemand(0, 22);
        g.pass(1);
        made(g, 2, 2, 2, 9, 6, 6, -5);
        g.setDemand(0, 11);
        g.pass(1);
        made(g, 2, 2, 2, 2, 2, 6, -5);
        C.due(30, () -> g.price(0));
        g.setDemand(0, 5);
        g.pass(1);
        made(g, 2, 2, 2, 2, 0, 2, -5);
        g.setDemand(0, 3);
        g.pass(1);
        made(g, 2, 2, 2, 2, 0, 0, -5);
        // One less, and the dearest of the highest number goes OFF.
        g.setDemand(0, 2);
        g.pass(1);
        made(g, 2, 2, 0, 2, 0, 1, -5);
        C.due(0, () -> g.plantState(2));
        C.due(2, () -> g.plantState(1));
    }

    private static void made(CopperDispatch g, int... due) {
        for (int k = 0; k < 4; k++) {
            int plant = k;
            C.due(due[k], () -> g.amount(PLANT, plant));
        }
        C.due(due[4], () -> g.amount(WHEEL, 0));
        C.due(due[5], () -> g.amount(WHEEL, 1));
        C.due(due[6], () -> g.amount(STORE, 0));
    }

    /** A plant that goes OFF takes along what was called, given and shed for its sake. */
    private static void promise32DearestGoesOff() {
        CopperDispatch g = new CopperDispatch();
        g.plant(0, 0, 10, 0, true);
        g.plant(0, 20, 30, 0, true);
        g.start(0);
        g.start(1);
        g.offer(1, 9, 1);
        g.reserve(0, 0, 5, 70);
        g.reserve(1, 0, 10, 80);
        g.feeder(0, 4);
        g.feeder(0, 45);
        g.pass(1);
        // 49 of 35: 0 is shed, and 1 too; then 20 are too much, and plant 1 goes OFF; 5 serve 0 once 1 is shed.
        C.due(0, () -> g.plantState(1));
        C.due(2, () -> g.plantState(0));
        C.due(10, () -> g.left(1, 0));
        C.due(0, () -> g.base(1));
        C.due(0, () -> g.left(0, 0));
        shed(g, true, true);
        C.due(0, () -> g.amount(PLANT, 0));
        C.due(5, () -> g.base(0));
        g.setDemand(1, 6);
        g.pass(1);
        shed(g, false, true);
        C.due(4, () -> g.amount(PLANT, 0));
        C.due(1000, () -> g.price(0));
        g.stop(0);
        g.setDemand(1, 20);
        g.setDemand(0, 0);
        g.start(1);
        g.pass(1);
        shed(g, false, false);
        C.due(9, () -> g.price(0));
        C.due(20, () -> g.amount(PLANT, 1));
    }

    /** What was shed, called and given for a plant that goes OFF is as if it had never been, also in the turns. */
    private static void promise32UndoneSheddingCountsNot() {
        CopperDispatch g = new CopperDispatch();
        g.plant(0, 0, 40, 0, true);
        g.plant(0, 20, 30, 0, true);
        g.offer(0, 5, 40);
        g.clear(10);
        g.reserve(0, 0, 1, 70);
        g.offer(1, 9, 1);
        g.start(0);
        g.start(1);
        g.feeder(0, 5);
        g.feeder(0, 12);
        g.feeder(0, 13);
        // 30 of 31, all served.
        g.pass(1);
        shed(g, false, false, false);
        C.due(9, () -> g.price(0));
        g.setDemand(1, 60);
        g.setDemand(2, 8);
        // 73 of 31: 0 and 1 are shed, 8 are left, less than 20: plant 1 goes OFF, 0 and 1 are shed anew, of 11.
        g.pass(1);
        shed(g, true, true, false);
        C.due(0, () -> g.plantState(1));
        C.due(8, () -> g.amount(PLANT, 0));
        C.due(11, () -> g.base(0));
        g.setDemand(1, 2);
        g.pass(1);
        // 0 was shed ahead of 1, and does not fit beside 8; 1 is smaller, but has to wait.
        shed(g, true, true, false);
        g.setDemand(0, 3);
        g.pass(1);
        shed(g, false, true, false);
        // A store gives for the sake of plant 1, and what it gave is undone as that goes OFF.
        CopperDispatch h = new CopperDispatch();
        h.plant(0, 20, 30, 0, true);
        h.plant(0, 0, 30, 0, true);
        h.offer(0, 9, 1);
        h.store(0, 9, 4, 0);
        h.wheel(0);
        h.wind(0, true, 4);
        h.reserve(1, 0, 6, 80);
        h.start(1);
        h.pass(1);
        h.wind(0, true, 0);
        h.start(0);
        h.feeder(0, 31);
        h.feeder(0, 6);
        h.feeder(0, 0);
        // 37 of 30: 31 are shed, of 20 for 6 14 are too much; without plant 0 there are 6 and 4: 31 are shed.
        h.pass(1);
        C.due(0, () -> h.plantState(0));
        shed(h, true, false, false);
        C.due(0, () -> h.left(1, 0));
        C.due(2, () -> h.amount(PLANT, 1));
        C.due(4, () -> h.amount(STORE, 0));
        C.due(0, () -> h.level(0));
        // A reserve whose call is undone was not called, and its price does not count once the plant is ON again.
        CopperDispatch k = new CopperDispatch();
        k.plant(0, 20, 30, 0, true);
        k.plant(0, 0, 30, 0, true);
        k.offer(0, 9, 1);
        k.reserve(0, 0, 9, 80);
        k.start(0);
        k.start(1);
        k.wheel(0);
        k.wind(0, true, 1);
        k.feeder(0, 31);
        k.feeder(0, 1);
        // 32 of 30: 31 are shed, and 19 too much; plant 0 goes OFF, then 31 are shed anew.
        k.pass(1);
        C.due(9, () -> k.left(0, 0));
        C.due(0, () -> k.base(0));
        k.setDemand(0, 0);
        k.pass(1);
        shed(k, false, false);
        C.due(0, () -> k.price(0));
        k.start(0);
        k.setDemand(0, 20);
        k.pass(1);
        C.due(9, () -> k.price(0));
        C.due(9, () -> k.left(0, 0));
    }

    /** A store that gives in a minute takes in nothing in it, but gives less. */
    private static void promise32StoresThatGiveTakeNothing() {
        CopperDispatch g = running(0, 10);
        g.store(0, 20, 10, 0);
        g.pass(1);
        C.due(1000, () -> g.level(0));
        g.store(0, 20, 2, 0);
        g.feeder(0, 13);
        g.feeder(0, 9);
        g.pass(1);
        // 22 of 10 and 10: 13 are shed, store 1 takes 2, the plant makes less, and the store gives 10 all the same.
        shed(g, true, false);
        C.due(-2, () -> g.amount(STORE, 1));
        C.due(1, () -> g.amount(PLANT, 0));
        C.due(10, () -> g.amount(STORE, 0));
        C.due(0, () -> g.level(0));
        CopperDispatch h = running(0, 4);
        h.store(0, 20, 4, 0);
        h.pass(1);
        h.feeder(0, 13);
        h.feeder(0, 2);
        h.pass(1);
        // 15 of 4 and 4: 13 are shed; the plant makes nothing, and the store gives 2.
        C.due(0, () -> h.amount(PLANT, 0));
        C.due(2, () -> h.amount(STORE, 0));
        C.due(200, () -> h.level(0));
    }

    private static void promise32NotLive() {
        CopperDispatch g = running(0, 40);
        g.line(0, 1, 1, 99);
        g.feeder(1, 20);
        g.wheel(1);
        g.store(1, 9, 1, 50);
        g.wind(0, true, 5);
        g.pass(1);
        C.due(5, () -> g.amount(WHEEL, 0));
        C.due(50, () -> g.level(0));
        g.switchLine(0, false);
        g.pass(1);
        C.due(0, () -> g.amount(WHEEL, 0));
        C.due(0, () -> g.amount(FEEDER, 0));
        C.due(0, () -> g.amount(STORE, 0));
        C.due(0, () -> g.amount(PLANT, 0));
        C.due(false, () -> g.isShed(0));
        C.due(-1, () -> g.price(1));
        g.switchLine(0, true);
        g.stop(0);
        g.pass(1);
        C.due(-1, () -> g.price(0));
    }
}
