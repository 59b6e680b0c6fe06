/** The edges that the document's terms name for plants, the market, reserves and hours; a method for each sentence. */
public final class MarketEdgesTest {
    private static final Check C = new Check();
    private static final int PLANT = CopperDispatch.PLANT;

    private MarketEdgesTest() { }

    public static void main(String[] args) {
        plantIsOffAtFirst();
        startOfNoMinutesIsOnAtOnce();
        startOfOneMinute();
        startOfThirtyMinutes();
        startNeedsAPlantThatIsOff();
        startInTheDark();
        startByLinesAsTheyAreNow();
        startWhereAPlantOnlyStarts();
        startBesideAStoreOfOneHundred();
        stopOfAnyState();
        startAnewTakesItsWholeTime();
        stepAsDearAsTheOneAhead();
        forecastIsTakenFromTheDemand();
        forecastIsMoreThanTheDemand();
        windThatBlowsIsNoForecast();
        stepsGoByPrice();
        stepsOfOnePriceGoByPlant();
        lastStepIsTakenInPart();
        demandUpToAllStepsAndOneMore();
        priceOfTheMarketWithoutAStep();
        plantWithExactlyItsLeastLoadStays();
        plantBelowItsLeastLoadIsOut();
        plantWithNothingIsNotOut();
        lowestPlantIsOutFirst();
        plantOutIsInAgainNextTime();
        plantsThatAreOffAreScheduled();
        missingIsWhatIsStillWanted();
        clearingAgainTakesReservesBack();
        clearingLeavesThisHoursReserves();
        reservesCountWithTheSchedule();
        reserveBehindOneOfItsClass();
        reserveIsSoldAtThePriceToldLast();
        withdrawLeavesSchedules();
        hourBeginsWithItsFirstMinute();
        nothingIsForTheHourToComeThen();
        hourHasTenMinutes();
        baseIsZeroInAnHourWithoutSchedule();
        missingStaysOverTheHour();
        C.end();
    }

    private static CopperDispatch plant(int least, int most, int start, boolean isBlack) {
        CopperDispatch g = new CopperDispatch();
        g.plant(0, least, most, start, isBlack);
        return g;
    }

    private static void plantIsOffAtFirst() {
        CopperDispatch g = plant(0, 1, 0, true);
        C.due(0, () -> g.plantState(0));
        C.due(0, () -> g.base(0));
        C.due(0, () -> g.scheduled(0));
        C.due(0, () -> g.left(0, 0));
        C.due(0, () -> g.left(0, 1));
        C.due(0, () -> g.stop(0));
        C.due(0, () -> g.withdraw(0));
    }

    private static void startOfNoMinutesIsOnAtOnce() {
        CopperDispatch g = plant(0, 1, 0, true);
        C.due(0, () -> g.start(0));
        C.due(2, () -> g.plantState(0));
    }

    private static void startOfOneMinute() {
        CopperDispatch g = plant(0, 1, 1, true);
        C.due(1, () -> g.start(0));
        C.due(1, () -> g.plantState(0));
        C.due(-1, () -> g.price(0));
        g.pass(1);
        C.due(2, () -> g.plantState(0));
        C.due(0, () -> g.price(0));
    }

    private static void startOfThirtyMinutes() {
        CopperDispatch g = plant(0, 1, 30, true);
        C.due(30, () -> g.start(0));
        g.pass(29);
        C.due(1, () -> g.plantState(0));
        C.due(-1, () -> g.price(0));
        g.pass(1);
        C.due(2, () -> g.plantState(0));
    }

    private static void startNeedsAPlantThatIsOff() {
        CopperDispatch g = plant(0, 1, 2, true);
        g.start(0);
        C.badState(() -> g.start(0));
        g.pass(1);
        C.badState(() -> g.start(0));
        g.pass(1);
        C.badState(() -> g.start(0));
        g.stop(0);
        C.due(2, () -> g.start(0));
    }

    private static void startInTheDark() {
        CopperDispatch g = plant(0, 1, 5, false);
        C.badState(() -> g.start(0));
        g.plant(0, 0, 1, 0, true);
        C.badState(() -> g.start(0));
        g.start(1);
        C.due(5, () -> g.start(0));
    }

    private static void startByLinesAsTheyAreNow() {
        CopperDispatch g = plant(0, 1, 5, false);
        g.plant(1, 0, 1, 0, true);
        g.start(1);
        g.pass(1);
        C.badState(() -> g.start(0));
        g.line(0, 1, 1, 1);
        g.switchLine(0, false);
        C.badState(() -> g.start(0));
        g.switchLine(0, true);
        C.due(5, () -> g.start(0));
        g.stop(0);
        g.storm(0);
        C.badState(() -> g.start(0));
    }

    private static void startWhereAPlantOnlyStarts() {
        CopperDispatch g = plant(0, 1, 0, false);
        g.plant(0, 0, 1, 1, true);
        g.start(1);
        C.badState(() -> g.start(0));
        g.pass(1);
        C.due(0, () -> g.start(0));
    }

    private static void startBesideAStoreOfOneHundred() {
        for (int loss = 0; loss < 2; loss++) {
            CopperDispatch g = plant(0, 1, 0, false);
            g.plant(0, 0, 1, 0, true);
            g.store(0, 9, 1, loss);
            g.wheel(0);
            g.wind(0, true, 1);
            g.start(1);
            g.pass(1);
            g.stop(1);
            if (loss == 0) {
                C.due(100, () -> g.level(0));
                C.due(0, () -> g.start(0));
            } else {
                C.due(99, () -> g.level(0));
                C.badState(() -> g.start(0));
            }
        }
    }

    private static void stopOfAnyState() {
        CopperDispatch g = plant(0, 1, 1, true);
        C.due(0, () -> g.stop(0));
        g.start(0);
        C.due(1, () -> g.stop(0));
        C.due(0, () -> g.plantState(0));
        g.start(0);
        g.pass(1);
        C.due(2, () -> g.stop(0));
        C.due(0, () -> g.plantState(0));
        C.due(0, () -> g.stop(0));
    }

    private static void startAnewTakesItsWholeTime() {
        CopperDispatch g = plant(0, 1, 3, true);
        g.start(0);
        g.pass(2);
        g.stop(0);
        C.due(3, () -> g.start(0));
        g.pass(2);
        C.due(1, () -> g.plantState(0));
        g.pass(1);
        C.due(2, () -> g.plantState(0));
    }

    private static void stepAsDearAsTheOneAhead() {
        CopperDispatch g = plant(0, 99, 0, true);
        g.offer(0, 500, 1);
        C.badState(() -> g.offer(0, 499, 1));
        C.due(2, () -> g.offer(0, 500, 1));
        C.badState(() -> g.offer(0, 0, 1));
        C.due(3, () -> g.offer(0, 501, 1));
        // A plant without steps has none ahead, also behind a withdrawal.
        g.withdraw(0);
        C.due(1, () -> g.offer(0, 0, 1));
    }

    private static CopperDispatch withForecast(int forecast) {
        CopperDispatch g = plant(0, 99, 0, true);
        g.offer(0, 10, 99);
        g.wheel(0);
        g.wheel(5);
        g.wind(0, false, forecast - 4);
        g.wind(1, false, 4);
        return g;
    }

    private static void forecastIsTakenFromTheDemand() {
        CopperDispatch g = withForecast(20);
        C.due(10, () -> g.clear(21));
        C.due(1, () -> g.scheduled(0));
        C.due(10, () -> g.clear(119));
        C.due(99, () -> g.scheduled(0));
        C.due(0, g::missing);
        g.clear(120);
        C.due(1, g::missing);
    }

    private static void forecastIsMoreThanTheDemand() {
        CopperDispatch g = withForecast(20);
        for (int demand : new int[] {20, 19, 0}) {
            C.due(0, () -> g.clear(demand));
            C.due(0, () -> g.scheduled(0));
            C.due(0, g::missing);
        }
    }

    private static void windThatBlowsIsNoForecast() {
        CopperDispatch g = withForecast(4);
        g.wind(0, true, 60);
        C.due(10, () -> g.clear(5));
        C.due(1, () -> g.scheduled(0));
    }

    private static void stepsGoByPrice() {
        CopperDispatch g = new CopperDispatch();
        for (int k = 0; k < 3; k++) {
            g.plant(0, 0, 30, 0, true);
            g.offer(k, 30 - k, 10);
            g.offer(k, 40 + k, 10);
        }
        C.due(28, () -> g.clear(1));
        C.due(1, () -> g.scheduled(2));
        C.due(28, () -> g.clear(10));
        C.due(29, () -> g.clear(11));
        C.due(1, () -> g.scheduled(1));
        C.due(30, () -> g.clear(21));
        C.due(40, () -> g.clear(31));
        C.due(11, () -> g.scheduled(0));
        C.due(41, () -> g.clear(41));
        C.due(11, () -> g.scheduled(1));
        C.due(42, () -> g.clear(60));
    }

    private static void stepsOfOnePriceGoByPlant() {
        CopperDispatch g = new CopperDispatch();
        for (int k = 0; k < 2; k++) {
            g.plant(0, 0, 30, 0, true);
            g.offer(k, 5, 10);
            g.offer(k, 5, 10);
        }
        g.clear(20);
        C.due(20, () -> g.scheduled(0));
        C.due(0, () -> g.scheduled(1));
        g.clear(21);
        C.due(20, () -> g.scheduled(0));
        C.due(1, () -> g.scheduled(1));
    }

    private static void lastStepIsTakenInPart() {
        CopperDispatch g = plant(0, 99, 0, true);
        g.offer(0, 5, 10);
        g.offer(0, 6, 10);
        C.due(5, () -> g.clear(9));
        C.due(9, () -> g.scheduled(0));
        C.due(5, () -> g.clear(10));
        C.due(6, () -> g.clear(11));
        C.due(11, () -> g.scheduled(0));
    }

    private static void demandUpToAllStepsAndOneMore() {
        CopperDispatch g = plant(0, 99, 0, true);
        g.offer(0, 5, 10);
        C.due(5, () -> g.clear(10));
        C.due(0, g::missing);
        C.due(5, () -> g.clear(11));
        C.due(1, g::missing);
        C.due(10, () -> g.scheduled(0));
        C.due(5, () -> g.clear(999));
        C.due(989, g::missing);
    }

    private static void priceOfTheMarketWithoutAStep() {
        CopperDispatch g = plant(0, 99, 0, true);
        C.due(0, () -> g.clear(5));
        g.offer(0, 7, 5);
        C.due(0, () -> g.clear(0));
        C.due(7, () -> g.clear(5));
        g.withdraw(0);
        C.due(0, () -> g.clear(5));
    }

    private static CopperDispatch leastOf10() {
        CopperDispatch g = plant(10, 30, 0, true);
        g.offer(0, 5, 30);
        return g;
    }

    private static void plantWithExactlyItsLeastLoadStays() {
        CopperDispatch g = leastOf10();
        C.due(5, () -> g.clear(10));
        C.due(10, () -> g.scheduled(0));
        C.due(0, g::missing);
    }

    private static void plantBelowItsLeastLoadIsOut() {
        CopperDispatch g = leastOf10();
        C.due(0, () -> g.clear(9));
        C.due(0, () -> g.scheduled(0));
        C.due(9, g::missing);
        // 1 is something, and less than 2.
        CopperDispatch h = plant(2, 30, 0, true);
        h.offer(0, 5, 30);
        C.due(0, () -> h.clear(1));
        C.due(0, () -> h.scheduled(0));
        C.due(1, h::missing);
        C.due(5, () -> h.clear(2));
    }

    /** Plant 0 has nothing at first; as 1 is out, 0 has all. */
    private static void plantWithNothingIsNotOut() {
        CopperDispatch g = new CopperDispatch();
        g.plant(0, 10, 30, 0, true);
        g.plant(0, 20, 30, 0, true);
        g.offer(0, 8, 30);
        g.offer(1, 5, 30);
        C.due(8, () -> g.clear(15));
        C.due(15, () -> g.scheduled(0));
        C.due(0, () -> g.scheduled(1));
        C.due(0, g::missing);
    }

    /** 0 has 5 of 6 and 1 has 5 of 9: 0 is out, and then 1 has 10. */
    private static void lowestPlantIsOutFirst() {
        CopperDispatch g = new CopperDispatch();
        g.plant(0, 6, 30, 0, true);
        g.plant(0, 9, 30, 0, true);
        g.offer(0, 5, 5);
        g.offer(1, 6, 30);
        C.due(6, () -> g.clear(10));
        C.due(0, () -> g.scheduled(0));
        C.due(10, () -> g.scheduled(1));
        // 1 is the cheaper one, but 0 is out first all the same; then 1 has no more than 5, and is out too.
        CopperDispatch h = new CopperDispatch();
        h.plant(0, 6, 30, 0, true);
        h.plant(0, 9, 30, 0, true);
        h.offer(0, 6, 30);
        h.offer(1, 5, 5);
        C.due(0, () -> h.clear(10));
        C.due(0, () -> h.scheduled(0));
        C.due(0, () -> h.scheduled(1));
        C.due(10, h::missing);
    }

    private static void plantOutIsInAgainNextTime() {
        CopperDispatch g = leastOf10();
        g.clear(9);
        C.due(5, () -> g.clear(11));
        C.due(11, () -> g.scheduled(0));
    }

    private static void plantsThatAreOffAreScheduled() {
        CopperDispatch g = leastOf10();
        C.due(5, () -> g.clear(12));
        g.pass(1);
        C.due(12, () -> g.base(0));
        C.due(0, () -> g.plantState(0));
        C.due(0, () -> g.amount(PLANT, 0));
    }

    private static void missingIsWhatIsStillWanted() {
        CopperDispatch g = leastOf10();
        C.due(0, g::missing);
        g.clear(31);
        C.due(1, g::missing);
        g.clear(30);
        C.due(0, g::missing);
        g.clear(9);
        C.due(9, g::missing);
    }

    private static void clearingAgainTakesReservesBack() {
        CopperDispatch g = plant(0, 10, 0, true);
        g.offer(0, 5, 10);
        g.reserve(0, 0, 4, 1);
        g.reserve(0, 1, 6, 1);
        C.badState(() -> g.reserve(0, 0, 1, 1));
        g.clear(10);
        C.due(10, () -> g.scheduled(0));
        C.badState(() -> g.reserve(0, 0, 1, 1));
        g.clear(3);
        C.due(2, () -> g.reserve(0, 1, 2, 1));
        g.clear(3);
        C.due(7, () -> g.reserve(0, 1, 7, 1));
        g.pass(1);
        C.due(0, () -> g.left(0, 0));
        C.due(7, () -> g.left(0, 1));
    }

    private static void clearingLeavesThisHoursReserves() {
        CopperDispatch g = plant(0, 10, 0, true);
        g.reserve(0, 0, 4, 1);
        g.reserve(0, 1, 6, 1);
        g.pass(1);
        g.clear(10);
        C.due(4, () -> g.left(0, 0));
        C.due(6, () -> g.left(0, 1));
    }

    private static void reservesCountWithTheSchedule() {
        CopperDispatch g = plant(0, 10, 0, true);
        g.offer(0, 5, 10);
        g.clear(9);
        C.badState(() -> g.reserve(0, 0, 2, 1));
        C.due(1, () -> g.reserve(0, 0, 1, 1));
        C.badState(() -> g.reserve(0, 1, 1, 1));
        g.pass(1);
        // This hour's base and reserves leave the hour to come free.
        C.badState(() -> g.reserve(0, 1, 11, 1));
        C.due(10, () -> g.reserve(0, 1, 10, 1));
        C.due(1, () -> g.left(0, 0));
    }

    private static void reserveBehindOneOfItsClass() {
        CopperDispatch g = plant(0, 10, 0, true);
        C.due(2, () -> g.reserve(0, 0, 2, 1));
        C.due(3, () -> g.reserve(0, 1, 3, 1));
        C.due(4, () -> g.reserve(0, 0, 2, 1));
        C.due(6, () -> g.reserve(0, 1, 3, 1));
    }

    private static void reserveIsSoldAtThePriceToldLast() {
        CopperDispatch g = plant(0, 10, 0, true);
        g.reserve(0, 0, 2, 90);
        g.reserve(0, 1, 2, 70);
        g.reserve(0, 0, 2, 40);
        g.feeder(0, 1);
        g.start(0);
        g.pass(1);
        C.due(40, () -> g.price(0));
        g.setDemand(0, 6);
        g.pass(1);
        C.due(70, () -> g.price(0));
        C.due(0, () -> g.left(0, 1));
    }

    private static void withdrawLeavesSchedules() {
        CopperDispatch g = plant(0, 10, 0, true);
        g.offer(0, 5, 4);
        g.offer(0, 5, 6);
        g.clear(9);
        g.pass(1);
        g.clear(8);
        C.due(2, () -> g.withdraw(0));
        C.due(9, () -> g.base(0));
        C.due(8, () -> g.scheduled(0));
        g.pass(10);
        C.due(8, () -> g.base(0));
    }

    private static void hourBeginsWithItsFirstMinute() {
        CopperDispatch g = plant(0, 10, 0, true);
        g.offer(0, 5, 9);
        g.clear(9);
        g.reserve(0, 0, 1, 1);
        C.due(0, () -> g.base(0));
        C.due(0, () -> g.left(0, 0));
        C.due(9, () -> g.scheduled(0));
        g.pass(1);
        C.due(9, () -> g.base(0));
        C.due(1, () -> g.left(0, 0));
    }

    private static void nothingIsForTheHourToComeThen() {
        CopperDispatch g = plant(0, 10, 0, true);
        g.offer(0, 5, 9);
        g.clear(9);
        g.reserve(0, 0, 1, 1);
        g.pass(1);
        C.due(0, () -> g.scheduled(0));
        g.pass(10);
        C.due(0, () -> g.base(0));
        C.due(0, () -> g.left(0, 0));
    }

    private static void hourHasTenMinutes() {
        CopperDispatch g = plant(0, 10, 0, true);
        g.offer(0, 5, 9);
        g.clear(9);
        g.pass(1);
        g.clear(4);
        g.pass(9);
        C.due(9, () -> g.base(0));
        C.due(4, () -> g.scheduled(0));
        C.noSuch(() -> g.open(1));
        g.clear(3);
        g.pass(1);
        C.due(3, () -> g.base(0));
        C.due(0, () -> g.scheduled(0));
        C.due(0L, () -> g.open(1));
        C.noSuch(() -> g.open(2));
    }

    private static void baseIsZeroInAnHourWithoutSchedule() {
        CopperDispatch g = Grids.one(7, 7);
        g.pass(10);
        C.due(7, () -> g.base(0));
        C.due(7, () -> g.amount(PLANT, 0));
        g.pass(1);
        C.due(0, () -> g.base(0));
        C.due(0, () -> g.amount(PLANT, 0));
        C.due(2, () -> g.plantState(0));
    }

    private static void missingStaysOverTheHour() {
        CopperDispatch g = plant(0, 10, 0, true);
        g.clear(13);
        g.pass(11);
        C.due(13, g::missing);
    }
}
