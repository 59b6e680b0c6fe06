/** Promises 33 to 39: minutes and bills. */
public final class MinuteTest {
    private static final Check C = new Check();
    private static final int FEEDER = CopperDispatch.FEEDER;
    private static final int PLANT = CopperDispatch.PLANT;
    private static final int WHEEL = CopperDispatch.WHEEL;
    private static final int STORE = CopperDispatch.STORE;
    private static final int MIN = Integer.MIN_VALUE;
    private static final int MAX = Integer.MAX_VALUE;

    private MinuteTest() { }

    public static void main(String[] args) {
        promise33Pass();
        promise34Minute();
        promise35BreakMeter();
        promise36Reading();
        promise37Correct();
        promise38Bill();
        promise38BillOfBroken();
        promise38BillOfLateFeeder();
        promise39Open();
        hourEdges();
        C.end();
    }

    /** One node: a plant that makes all at 8, scheduled for one hour, and a feeder of 10. */
    private static CopperDispatch small() {
        CopperDispatch g = new CopperDispatch();
        g.plant(0, 0, 99, 0, true);
        g.offer(0, 8, 99);
        g.clear(99);
        g.start(0);
        g.feeder(0, 10);
        return g;
    }

    private static void promise33Pass() {
        CopperDispatch g = new CopperDispatch();
        C.badArgument(() -> g.pass(0));
        C.badArgument(() -> g.pass(-1));
        C.badArgument(() -> g.pass(101));
        C.badArgument(() -> g.pass(MAX));
        C.badArgument(() -> g.pass(MIN));
        C.due(1, () -> g.pass(1));
        C.due(101, () -> g.pass(100));
        g.pass(100);
        g.pass(100);
        C.badState(() -> g.pass(100));
        C.due(301, g::minute);
        C.due(399, () -> g.pass(98));
        C.badState(() -> g.pass(2));
        C.due(400, () -> g.pass(1));
        C.badState(() -> g.pass(1));
        C.badArgument(() -> g.pass(0));
        C.due(0L, () -> g.open(39));
        C.noSuch(() -> g.open(40));
    }

    private static void promise34Minute() {
        CopperDispatch g = new CopperDispatch();
        C.due(0, g::minute);
        g.pass(7);
        C.due(7, g::minute);
        C.badArgument(() -> g.pass(0));
        C.due(7, g::minute);
    }

    private static void promise35BreakMeter() {
        CopperDispatch g = small();
        C.noSuch(() -> g.breakMeter(-1, true));
        C.noSuch(() -> g.breakMeter(1, true));
        C.due(false, () -> g.breakMeter(0, false));
        C.due(false, () -> g.breakMeter(0, true));
        C.due(true, () -> g.breakMeter(0, true));
        g.pass(2);
        C.due(0, () -> g.reading(0, 0));
        C.due(true, () -> g.breakMeter(0, false));
        g.pass(1);
        C.due(10, () -> g.reading(0, 0));
    }

    private static void promise36Reading() {
        CopperDispatch g = small();
        C.noSuch(() -> g.reading(0, 0));
        g.pass(3);
        C.noSuch(() -> g.reading(-1, 0));
        C.noSuch(() -> g.reading(1, 0));
        C.noSuch(() -> g.reading(0, -1));
        C.noSuch(() -> g.reading(0, 1));
        C.noSuch(() -> g.reading(0, MAX));
        C.noSuch(() -> g.reading(0, MIN));
        C.due(30, () -> g.reading(0, 0));
        g.feeder(0, 7);
        C.due(0, () -> g.reading(1, 0));
        g.pass(7);
        C.due(100, () -> g.reading(0, 0));
        C.due(49, () -> g.reading(1, 0));
        C.noSuch(() -> g.reading(0, 1));
        g.pass(1);
        C.due(0, () -> g.reading(0, 1));
        C.due(100, () -> g.reading(0, 0));
        C.due(true, () -> g.isShed(0));
    }

    private static void promise37Correct() {
        CopperDispatch g = small();
        g.feeder(0, 0);
        C.noSuch(() -> g.correct(0, 0, 5));
        g.breakMeter(0, true);
        g.breakMeter(1, true);
        g.pass(1);
        g.breakMeter(0, false);
        C.noSuch(() -> g.correct(-1, 0, 601));
        C.noSuch(() -> g.correct(2, 0, 5));
        C.noSuch(() -> g.correct(0, 1, 601));
        C.badArgument(() -> g.correct(0, 0, -1));
        C.badArgument(() -> g.correct(0, 0, 601));
        C.badState(() -> g.correct(0, 0, 5));
        g.pass(8);
        C.badState(() -> g.correct(0, 0, 5));
        g.pass(1);
        C.badState(() -> g.correct(1, 0, 5));
        C.badArgument(() -> g.correct(0, 0, 601));
        C.badArgument(() -> g.correct(0, 0, -1));
        C.due(90, () -> g.correct(0, 0, 600));
        C.due(600, () -> g.reading(0, 0));
        C.badState(() -> g.correct(0, 0, 600));
        C.badArgument(() -> g.correct(0, 0, 601));
        C.due(600L * 80 / 10, () -> g.bill(FEEDER, 0, 0));
        g.pass(1);
        C.due(600, () -> g.reading(0, 0));
        C.due(0, () -> g.reading(0, 1));
        g.pass(10);
        C.badState(() -> g.correct(0, 1, 5));
        C.badState(() -> g.correct(0, 0, 5));
        CopperDispatch h = small();
        h.setDemand(0, 1);
        h.breakMeter(0, true);
        h.pass(10);
        C.due(0, () -> h.correct(0, 0, 0));
        C.badState(() -> h.correct(0, 0, 0));
        C.due(0L, () -> h.bill(FEEDER, 0, 0));
    }

    private static void promise38Bill() {
        CopperDispatch g = small();
        C.noSuch(() -> g.bill(FEEDER, 0, 0));
        g.wheel(0);
        g.wind(0, true, 4);
        g.store(0, 4, 3, 0);
        g.pass(1);
        // 10 used and 3 taken in, of 4 by wind.
        C.due(80L, () -> g.bill(FEEDER, 0, 0));
        C.due(72L, () -> g.bill(PLANT, 0, 0));
        C.due(32L, () -> g.bill(WHEEL, 0, 0));
        C.due(-24L, () -> g.bill(STORE, 0, 0));
        for (int what = 0; what < 4; what++) {
            int kind = what;
            C.noSuch(() -> g.bill(kind, -1, 0));
            C.noSuch(() -> g.bill(kind, 1, 0));
            C.noSuch(() -> g.bill(kind, 0, 1));
            C.noSuch(() -> g.bill(kind, 0, -1));
            C.noSuch(() -> g.bill(kind, 0, MIN));
        }
        C.badArgument(() -> g.bill(4, 0, 0));
        C.badArgument(() -> g.bill(-1, 0, 0));
        C.noSuch(() -> g.bill(4, 0, 1));
        C.noSuch(() -> g.bill(-1, 0, -1));
        g.stop(0);
        g.wind(0, true, 0);
        g.setDemand(0, 2);
        g.pass(1);
        // The store alone gives 2, for nothing.
        C.due(80L, () -> g.bill(FEEDER, 0, 0));
        C.due(-24L, () -> g.bill(STORE, 0, 0));
        g.setDemand(0, 50);
        g.feeder(0, 1);
        g.pass(1);
        // 50 is shed; the store gives its last one at 1000.
        C.due(80L, () -> g.bill(FEEDER, 0, 0));
        C.due(1000L, () -> g.bill(FEEDER, 1, 0));
        C.due(976L, () -> g.bill(STORE, 0, 0));
        C.due(0L, () -> g.open(0));
        g.pass(8);
        C.due(976L, () -> g.bill(STORE, 0, 0));
        C.due(0L, () -> g.bill(STORE, 0, 1));
    }

    private static void promise38BillOfBroken() {
        CopperDispatch g = small();
        g.setDemand(0, 7);
        g.pass(1);
        g.withdraw(0);
        g.offer(0, 11, 99);
        g.pass(1);
        C.due(7L * 8 + 7 * 11, () -> g.bill(FEEDER, 0, 0));
        g.breakMeter(0, true);
        g.setDemand(0, 0);
        g.pass(1);
        // Broken while nothing was used: it counts as never broken.
        C.due(7L * 8 + 7 * 11, () -> g.bill(FEEDER, 0, 0));
        g.setDemand(0, 3);
        g.pass(1);
        // 14 times 8 + 11 + 0 + 11, by 4.
        C.due(14L * 30 / 4, () -> g.bill(FEEDER, 0, 0));
        C.due(105L - (7 * 8 + 7 * 11 + 3 * 11), () -> g.open(0));
        g.breakMeter(0, false);
        g.stop(0);
        g.pass(1);
        C.due(14L * 30 / 5, () -> g.bill(FEEDER, 0, 0));
        g.start(0);
        g.setDemand(0, 1);
        g.pass(2);
        // 16 times 52 by 7 is 118 and 6 over.
        C.due(118L, () -> g.bill(FEEDER, 0, 0));
        g.pass(3);
        C.due(19L * 85 / 10, () -> g.bill(FEEDER, 0, 0));
        g.correct(0, 0, 23);
        C.due(23L * 85 / 10, () -> g.bill(FEEDER, 0, 0));
        C.due(7L * 8 + 7 * 11 + 3 * 11 + 5 * 11, () -> g.bill(PLANT, 0, 0));
        C.due(23L * 85 / 10 - g.bill(PLANT, 0, 0), () -> g.open(0));
    }

    /** The prices of its island in all minutes of the hour so far count, also ahead of the feeder. */
    private static void promise38BillOfLateFeeder() {
        CopperDispatch g = small();
        g.pass(4);
        g.feeder(0, 5);
        g.pass(1);
        g.breakMeter(1, true);
        g.pass(1);
        C.due(5L * 48 / 6, () -> g.bill(FEEDER, 1, 0));
    }

    private static void promise39Open() {
        CopperDispatch g = small();
        C.noSuch(() -> g.open(0));
        g.store(0, 99, 20, 10);
        g.wheel(0);
        g.wind(0, true, 3);
        g.pass(5);
        C.due(0L, () -> g.open(0));
        C.noSuch(() -> g.open(-1));
        C.noSuch(() -> g.open(1));
        C.noSuch(() -> g.open(MAX));
        C.noSuch(() -> g.open(MIN));
        g.breakMeter(0, true);
        g.pass(1);
        C.due(50L * 48 / 6 - 480, () -> g.open(0));
        g.breakMeter(0, false);
        g.pass(4);
        C.due(90L * 8 - 800, () -> g.open(0));
        g.correct(0, 0, 110);
        C.due(80L, () -> g.open(0));
        C.noSuch(() -> g.open(1));
        g.pass(1);
        C.due(0L, () -> g.open(1));
    }

    /** What is sold and scheduled for the hour to come becomes this hour's in its first minute, and not ahead. */
    private static void hourEdges() {
        CopperDispatch g = small();
        g.pass(10);
        g.clear(20);
        g.reserve(0, 0, 5, 30);
        C.due(99, () -> g.base(0));
        C.due(0, () -> g.left(0, 0));
        C.due(20, () -> g.scheduled(0));
        g.pass(1);
        C.due(20, () -> g.base(0));
        C.due(5, () -> g.left(0, 0));
        C.due(0, () -> g.scheduled(0));
        g.setDemand(0, 22);
        g.pass(1);
        C.due(3, () -> g.left(0, 0));
        C.due(30, () -> g.price(0));
        g.setDemand(0, 1);
        g.pass(8);
        C.due(30, () -> g.price(0));
        g.clear(5);
        g.pass(1);
        C.due(8, () -> g.price(0));
        C.due(0, () -> g.left(0, 0));
        C.due(5, () -> g.base(0));
    }
}
