/** The edges that the document's terms name for stores' levels, meters, corrections and money; a method for each. */
public final class BillEdgesTest {
    private static final Check C = new Check();
    private static final int FEEDER = CopperDispatch.FEEDER;
    private static final int PLANT = CopperDispatch.PLANT;
    private static final int WHEEL = CopperDispatch.WHEEL;
    private static final int STORE = CopperDispatch.STORE;

    private BillEdgesTest() { }

    public static void main(String[] args) {
        demandsAndWindAreToldBack();
        takenInLessTheLoss();
        givenWithoutALoss();
        amountsAreOfTheMinuteThatWasLast();
        feederPaysItsDemand();
        feederWithoutPowerPaysNothing();
        feederThatIsShedPaysNothing();
        storePaysWhatItTakesIn();
        storeGetsWhatItGives();
        wheelGetsWhatItMakesOnly();
        moneyIsCountedAtTheLastNode();
        moneyIsCountedByHours();
        meterIsWholeAtFirst();
        brokenMeterCountsNothing();
        meterBrokenForAMinuteOfNoUse();
        meterBrokenForOneMinuteOfUse();
        meterBrokenFromNowOn();
        brokenInAnotherHourCountsNot();
        billOfAGapIsRoundedDown();
        billOfAGapWhereItsIslandWasNotLive();
        billOfAGapOverTheHourSoFar();
        billOfAGapOfALateFeeder();
        billOfAGapAtThePricesOfItsIsland();
        readingIsCorrectedBehindTheEndOfTheHour();
        readingIsCorrectedOnce();
        readingIsCorrectedOnlyIfItWasBroken();
        readingIsCorrectedToNothingAndToTheMost();
        correctionIsOfItsHourAlone();
        correctionIsOfItsFeederAlone();
        hourThatHasBegun();
        openIsZeroWhereNoMeterWasBroken();
        openIsBelowZeroWithAGap();
        openOfACorrectionThatTellsTheTruth();
        C.end();
    }

    private static void demandsAndWindAreToldBack() {
        CopperDispatch g = new CopperDispatch();
        g.feeder(0, 60);
        C.due(60, () -> g.setDemand(0, 0));
        C.due(0, () -> g.setDemand(0, 60));
        C.due(60, () -> g.setDemand(0, 1));
        g.wheel(0);
        C.due(0, () -> g.wind(0, true, 60));
        C.due(0, () -> g.wind(0, false, 59));
        C.due(60, () -> g.wind(0, true, 0));
        C.due(59, () -> g.wind(0, false, 0));
        C.due(0, () -> g.wind(0, true, 0));
    }

    /** 7 taken in are 700, 693 and 350. */
    private static void takenInLessTheLoss() {
        int[] losses = {0, 1, 50};
        int[] levels = {700, 693, 350};
        for (int k = 0; k < 3; k++) {
            CopperDispatch g = Grids.one(7, 0);
            g.store(0, 99, 50, losses[k]);
            g.pass(1);
            C.due(-7, () -> g.amount(STORE, 0));
            C.due(levels[k], () -> g.level(0));
        }
    }

    private static void givenWithoutALoss() {
        CopperDispatch g = Grids.one(8, 0);
        g.store(0, 99, 50, 50);
        g.pass(1);
        C.due(400, () -> g.level(0));
        g.stop(0);
        g.setDemand(0, 3);
        g.pass(1);
        C.due(3, () -> g.amount(STORE, 0));
        C.due(100, () -> g.level(0));
    }

    private static void amountsAreOfTheMinuteThatWasLast() {
        CopperDispatch g = Grids.one(9, 5);
        g.wheel(0);
        g.store(0, 99, 3, 0);
        g.wind(0, true, 1);
        C.due(0, () -> g.amount(FEEDER, 0));
        g.pass(1);
        g.setDemand(0, 60);
        g.wind(0, true, 60);
        g.stop(0);
        g.plant(0, 0, 9, 0, true);
        g.wheel(0);
        g.store(0, 1, 1, 0);
        g.feeder(0, 9);
        C.due(5, () -> g.amount(FEEDER, 0));
        C.due(7, () -> g.amount(PLANT, 0));
        C.due(1, () -> g.amount(WHEEL, 0));
        C.due(-3, () -> g.amount(STORE, 0));
        for (int what = 0; what < 4; what++) {
            int kind = what;
            C.due(0, () -> g.amount(kind, 1));
        }
    }

    private static void feederPaysItsDemand() {
        CopperDispatch g = Grids.one(60, 60);
        g.pass(1);
        C.due(480L, () -> g.bill(FEEDER, 0, 0));
        C.due(60, () -> g.reading(0, 0));
        g.pass(9);
        C.due(4800L, () -> g.bill(FEEDER, 0, 0));
        C.due(600, () -> g.reading(0, 0));
        C.due(4800L, () -> g.bill(PLANT, 0, 0));
    }

    private static void feederWithoutPowerPaysNothing() {
        CopperDispatch g = Grids.one(60, 60);
        g.stop(0);
        g.pass(1);
        C.due(0L, () -> g.bill(FEEDER, 0, 0));
        C.due(0, () -> g.reading(0, 0));
    }

    private static void feederThatIsShedPaysNothing() {
        CopperDispatch g = Grids.one(50, 60);
        g.feeder(0, 4);
        g.pass(1);
        C.due(0L, () -> g.bill(FEEDER, 0, 0));
        C.due(4000L, () -> g.bill(FEEDER, 1, 0));
        C.due(4000L, () -> g.bill(PLANT, 0, 0));
    }

    private static void storePaysWhatItTakesIn() {
        CopperDispatch g = Grids.one(9, 5);
        g.store(0, 99, 3, 50);
        g.pass(1);
        C.due(-24L, () -> g.bill(STORE, 0, 0));
        C.due(64L, () -> g.bill(PLANT, 0, 0));
        C.due(40L, () -> g.bill(FEEDER, 0, 0));
    }

    private static void storeGetsWhatItGives() {
        CopperDispatch g = Grids.one(9, 5);
        g.store(0, 99, 3, 0);
        g.pass(1);
        g.setDemand(0, 11);
        g.pass(1);
        C.due(2, () -> g.amount(STORE, 0));
        C.due(-24L + 16, () -> g.bill(STORE, 0, 0));
    }

    private static void wheelGetsWhatItMakesOnly() {
        CopperDispatch g = Grids.one(9, 10);
        g.wheel(0);
        g.wind(0, true, 4);
        g.pass(1);
        C.due(32L, () -> g.bill(WHEEL, 0, 0));
        C.due(48L, () -> g.bill(PLANT, 0, 0));
        g.setDemand(0, 1);
        g.pass(1);
        // Nothing is made by the plant, so the price is 0.
        C.due(32L, () -> g.bill(WHEEL, 0, 0));
    }

    private static void moneyIsCountedAtTheLastNode() {
        CopperDispatch g = new CopperDispatch();
        g.plant(7, 0, 20, 0, true);
        g.offer(0, 8, 20);
        g.clear(12);
        g.start(0);
        g.feeder(7, 10);
        g.wheel(7);
        g.wind(0, true, 1);
        g.store(7, 9, 2, 0);
        g.pass(1);
        C.due(80L, () -> g.bill(FEEDER, 0, 0));
        C.due(88L, () -> g.bill(PLANT, 0, 0));
        C.due(8L, () -> g.bill(WHEEL, 0, 0));
        C.due(-16L, () -> g.bill(STORE, 0, 0));
        C.due(8, () -> g.price(7));
    }

    private static void moneyIsCountedByHours() {
        CopperDispatch g = Grids.one(10, 10);
        g.pass(1);
        g.clear(10);
        g.pass(9);
        g.setDemand(0, 3);
        g.pass(1);
        C.due(800L, () -> g.bill(FEEDER, 0, 0));
        C.due(24L, () -> g.bill(FEEDER, 0, 1));
        C.due(800L, () -> g.bill(PLANT, 0, 0));
        C.due(24L, () -> g.bill(PLANT, 0, 1));
        C.due(100, () -> g.reading(0, 0));
        C.due(3, () -> g.reading(0, 1));
    }

    private static void meterIsWholeAtFirst() {
        CopperDispatch g = Grids.one(10, 10);
        C.due(false, () -> g.breakMeter(0, true));
        C.due(true, () -> g.breakMeter(0, true));
        C.due(true, () -> g.breakMeter(0, false));
        C.due(false, () -> g.breakMeter(0, false));
    }

    private static void brokenMeterCountsNothing() {
        CopperDispatch g = Grids.one(10, 10);
        g.pass(2);
        g.breakMeter(0, true);
        g.pass(3);
        C.due(20, () -> g.reading(0, 0));
        C.due(10, () -> g.amount(FEEDER, 0));
        g.breakMeter(0, false);
        g.pass(1);
        C.due(30, () -> g.reading(0, 0));
    }

    private static void meterBrokenForAMinuteOfNoUse() {
        CopperDispatch g = Grids.one(10, 10);
        g.pass(1);
        g.breakMeter(0, true);
        g.setDemand(0, 0);
        g.pass(1);
        g.setDemand(0, 10);
        g.stop(0);
        g.pass(1);
        g.start(0);
        g.breakMeter(0, false);
        g.pass(7);
        C.due(640L, () -> g.bill(FEEDER, 0, 0));
        C.badState(() -> g.correct(0, 0, 5));
    }

    private static void meterBrokenForOneMinuteOfUse() {
        CopperDispatch g = Grids.one(10, 1);
        g.breakMeter(0, true);
        g.pass(1);
        g.breakMeter(0, false);
        C.due(0L, () -> g.bill(FEEDER, 0, 0));
        C.due(-8L, () -> g.open(0));
        g.pass(9);
        C.due(72L, () -> g.bill(FEEDER, 0, 0));
        C.due(9, () -> g.correct(0, 0, 10));
    }

    /** Broken and mended between two minutes is not broken in any. */
    private static void meterBrokenFromNowOn() {
        CopperDispatch g = Grids.one(10, 10);
        g.pass(1);
        g.breakMeter(0, true);
        g.breakMeter(0, false);
        g.pass(9);
        C.due(100, () -> g.reading(0, 0));
        C.badState(() -> g.correct(0, 0, 5));
    }

    private static void brokenInAnotherHourCountsNot() {
        CopperDispatch g = Grids.one(10, 10);
        g.pass(1);
        g.clear(10);
        g.pass(9);
        g.breakMeter(0, true);
        g.pass(10);
        C.due(800L, () -> g.bill(FEEDER, 0, 0));
        C.due(0L, () -> g.bill(FEEDER, 0, 1));
        C.badState(() -> g.correct(0, 0, 5));
        C.due(0, () -> g.correct(0, 1, 5));
        C.due(40L, () -> g.bill(FEEDER, 0, 1));
    }

    /** 7 times 8 and 8 and 9 by 3 is 58 and 1 over. */
    private static void billOfAGapIsRoundedDown() {
        CopperDispatch g = Grids.one(10, 1);
        g.breakMeter(0, true);
        g.pass(1);
        g.breakMeter(0, false);
        g.setDemand(0, 3);
        g.pass(1);
        g.withdraw(0);
        g.offer(0, 9, 10);
        g.setDemand(0, 4);
        g.pass(1);
        C.due(7, () -> g.reading(0, 0));
        C.due(58L, () -> g.bill(FEEDER, 0, 0));
    }

    /** 8 in one minute, no price in the other one: 4 for each of 10. */
    private static void billOfAGapWhereItsIslandWasNotLive() {
        CopperDispatch g = Grids.one(10, 10);
        g.pass(1);
        g.stop(0);
        g.pass(1);
        C.due(80L, () -> g.bill(FEEDER, 0, 0));
        g.start(0);
        g.breakMeter(0, true);
        g.pass(1);
        // 10 times 8, 0 and 8 by 3.
        C.due(53L, () -> g.bill(FEEDER, 0, 0));
        g.stop(0);
        g.pass(1);
        C.due(40L, () -> g.bill(FEEDER, 0, 0));
    }

    private static void billOfAGapOverTheHourSoFar() {
        CopperDispatch g = Grids.one(10, 10);
        g.breakMeter(0, true);
        g.pass(1);
        g.breakMeter(0, false);
        C.due(0L, () -> g.bill(FEEDER, 0, 0));
        g.pass(1);
        C.due(80L, () -> g.bill(FEEDER, 0, 0));
        g.setDemand(0, 0);
        g.pass(1);
        // 10 times 16 by 3.
        C.due(53L, () -> g.bill(FEEDER, 0, 0));
        g.pass(7);
        C.due(16L, () -> g.bill(FEEDER, 0, 0));
        g.pass(1);
        C.due(16L, () -> g.bill(FEEDER, 0, 0));
    }

    /** The minutes of the hour so far are those of its node, also ahead of the call that added it. */
    private static void billOfAGapOfALateFeeder() {
        CopperDispatch g = Grids.one(10, 1);
        g.pass(3);
        g.feeder(0, 5);
        g.pass(1);
        g.breakMeter(1, true);
        g.pass(1);
        C.due(40L, () -> g.bill(FEEDER, 1, 0));
    }

    private static void billOfAGapAtThePricesOfItsIsland() {
        CopperDispatch g = new CopperDispatch();
        g.line(0, 1, 1, 99);
        for (int node = 0; node < 2; node++) {
            g.plant(node, 0, 20, 0, true);
            g.offer(node, 5 + 4 * node, 20);
            g.start(node);
            g.feeder(node, 10);
            g.breakMeter(node, true);
        }
        g.clear(40);
        g.pass(1);
        g.breakMeter(0, false);
        g.breakMeter(1, false);
        C.due(5, () -> g.price(1));
        g.switchLine(0, false);
        g.pass(1);
        C.due(5, () -> g.price(0));
        C.due(9, () -> g.price(1));
        C.due(50L, () -> g.bill(FEEDER, 0, 0));
        C.due(70L, () -> g.bill(FEEDER, 1, 0));
    }

    private static CopperDispatch broken() {
        CopperDispatch g = Grids.one(10, 10);
        g.breakMeter(0, true);
        return g;
    }

    private static void readingIsCorrectedBehindTheEndOfTheHour() {
        CopperDispatch g = broken();
        C.noSuch(() -> g.correct(0, 0, 5));
        g.pass(1);
        C.badState(() -> g.correct(0, 0, 5));
        g.pass(8);
        C.badState(() -> g.correct(0, 0, 5));
        g.pass(1);
        C.due(0, () -> g.correct(0, 0, 5));
        C.due(5, () -> g.reading(0, 0));
        CopperDispatch h = broken();
        h.pass(100);
        C.due(0, () -> h.correct(0, 0, 5));
    }

    private static void readingIsCorrectedOnce() {
        CopperDispatch g = broken();
        g.pass(10);
        C.due(0, () -> g.correct(0, 0, 0));
        C.badState(() -> g.correct(0, 0, 0));
        C.badState(() -> g.correct(0, 0, 600));
        C.due(0, () -> g.reading(0, 0));
    }

    private static void readingIsCorrectedOnlyIfItWasBroken() {
        CopperDispatch g = Grids.one(10, 10);
        g.pass(10);
        C.badState(() -> g.correct(0, 0, 100));
        g.breakMeter(0, true);
        C.badState(() -> g.correct(0, 0, 100));
    }

    private static void readingIsCorrectedToNothingAndToTheMost() {
        CopperDispatch g = broken();
        g.feeder(0, 0);
        g.pass(10);
        C.badArgument(() -> g.correct(0, 0, 601));
        C.badArgument(() -> g.correct(0, 0, -1));
        C.due(0, () -> g.correct(0, 0, 600));
        C.due(600, () -> g.reading(0, 0));
        C.due(4800L, () -> g.bill(FEEDER, 0, 0));
        CopperDispatch h = broken();
        h.pass(5);
        h.breakMeter(0, false);
        h.pass(5);
        C.due(50, () -> h.correct(0, 0, 0));
        C.due(0L, () -> h.bill(FEEDER, 0, 0));
    }

    private static void correctionIsOfItsHourAlone() {
        CopperDispatch g = broken();
        g.pass(1);
        g.clear(10);
        g.pass(19);
        g.correct(0, 0, 100);
        C.due(0, () -> g.reading(0, 1));
        C.due(0L, () -> g.bill(FEEDER, 0, 1));
        C.due(0, () -> g.correct(0, 1, 7));
        C.due(100, () -> g.reading(0, 0));
        C.due(7, () -> g.reading(0, 1));
    }

    private static void correctionIsOfItsFeederAlone() {
        CopperDispatch g = Grids.one(20, 10);
        g.feeder(0, 10);
        g.breakMeter(0, true);
        g.breakMeter(1, true);
        g.pass(10);
        g.correct(0, 0, 100);
        C.due(0, () -> g.reading(1, 0));
        C.due(0L, () -> g.bill(FEEDER, 1, 0));
        C.due(0, () -> g.correct(1, 0, 7));
        C.due(100, () -> g.reading(0, 0));
    }

    private static void hourThatHasBegun() {
        CopperDispatch g = Grids.one(10, 10);
        C.noSuch(() -> g.open(0));
        g.pass(1);
        C.due(0L, () -> g.open(0));
        C.noSuch(() -> g.open(1));
        g.pass(9);
        C.noSuch(() -> g.open(1));
        C.noSuch(() -> g.reading(0, 1));
        C.noSuch(() -> g.bill(FEEDER, 0, 1));
        C.noSuch(() -> g.correct(0, 1, 0));
        g.pass(1);
        C.due(0L, () -> g.open(1));
        C.due(0, () -> g.reading(0, 1));
        C.due(0L, () -> g.bill(FEEDER, 0, 1));
        C.badState(() -> g.correct(0, 1, 0));
    }

    private static void openIsZeroWhereNoMeterWasBroken() {
        CopperDispatch g = Grids.one(30, 20);
        g.feeder(0, 17);
        g.wheel(0);
        g.wind(0, true, 9);
        g.store(0, 50, 7, 30);
        for (int k = 0; k < 10; k++) {
            g.setDemand(0, 6 * k);
            g.pass(1);
            C.due(0L, () -> g.open(0));
        }
    }

    private static void openIsBelowZeroWithAGap() {
        CopperDispatch g = broken();
        g.pass(1);
        C.due(-80L, () -> g.open(0));
        g.pass(9);
        C.due(-800L, () -> g.open(0));
        g.correct(0, 0, 600);
        C.due(4000L, () -> g.open(0));
    }

    private static void openOfACorrectionThatTellsTheTruth() {
        CopperDispatch g = broken();
        g.pass(10);
        g.correct(0, 0, 100);
        C.due(0L, () -> g.open(0));
    }
}
