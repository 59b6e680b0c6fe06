/** The edges that the document's terms name for a minute and for how an island is balanced; a method for each. */
public final class BalanceEdgesTest {
    private static final Check C = new Check();
    private static final int FEEDER = CopperDispatch.FEEDER;
    private static final int PLANT = CopperDispatch.PLANT;
    private static final int WHEEL = CopperDispatch.WHEEL;
    private static final int STORE = CopperDispatch.STORE;

    private BalanceEdgesTest() { }

    public static void main(String[] args) {
        live();
        servedAgain();
        tooLittle();
        shedding();
        tooMuch();
        prices();
        C.end();
    }

    private static void shed(CopperDispatch g, boolean... due) {
        for (int k = 0; k < due.length; k++) {
            int feeder = k;
            C.due(due[k], () -> g.isShed(feeder));
        }
    }

    private static void amounts(CopperDispatch g, int what, int... due) {
        for (int k = 0; k < due.length; k++) {
            int which = k;
            C.due(due[k], () -> g.amount(what, which));
        }
    }

    private static void levels(CopperDispatch g, int... due) {
        for (int k = 0; k < due.length; k++) {
            int store = k;
            C.due(due[k], () -> g.level(store));
        }
    }

    /** A plant that is ON and makes nothing, a wheel that fills the store in the first minute, and still wind then. */
    private static CopperDispatch stored(int amount, int room, int rate, int loss) {
        CopperDispatch g = new CopperDispatch();
        g.plant(0, 0, 1, 0, true);
        g.start(0);
        g.wheel(0);
        g.wind(0, true, amount);
        g.store(0, room, rate, loss);
        g.pass(1);
        g.wind(0, true, 0);
        return g;
    }

    // ---- live

    private static void live() {
        liveByAPlantThatIsOn();
        notLiveByAPlantThatStarts();
        notLiveByWindAlone();
        liveByAStoreOfOneHundred();
        notLiveByAStoreOfNinetyNine();
        notLiveNothingMoves();
        notLiveTheyStayServedOrShed();
        liveForTheMinuteInWhichTheLastPlantGoesOff();
        eachIslandHasItsOwnBalance();
    }

    private static void liveByAPlantThatIsOn() {
        CopperDispatch g = new CopperDispatch();
        g.plant(3, 0, 1, 0, true);
        g.start(0);
        g.pass(1);
        C.due(0, () -> g.price(3));
        C.due(-1, () -> g.price(2));
    }

    private static void notLiveByAPlantThatStarts() {
        CopperDispatch g = new CopperDispatch();
        g.plant(3, 0, 1, 2, true);
        g.start(0);
        g.pass(1);
        C.due(-1, () -> g.price(3));
        g.pass(1);
        C.due(0, () -> g.price(3));
    }

    private static void notLiveByWindAlone() {
        CopperDispatch g = new CopperDispatch();
        g.wheel(0);
        g.wind(0, true, 60);
        g.feeder(0, 5);
        g.pass(1);
        C.due(-1, () -> g.price(0));
        amounts(g, WHEEL, 0);
        amounts(g, FEEDER, 0);
    }

    private static void liveByAStoreOfOneHundred() {
        CopperDispatch g = stored(1, 9, 9, 0);
        g.stop(0);
        levels(g, 100);
        g.feeder(0, 1);
        g.pass(1);
        C.due(0, () -> g.price(0));
        amounts(g, FEEDER, 1);
        levels(g, 0);
        g.pass(1);
        C.due(-1, () -> g.price(0));
    }

    private static void notLiveByAStoreOfNinetyNine() {
        CopperDispatch g = stored(1, 9, 9, 1);
        g.stop(0);
        levels(g, 99);
        g.feeder(0, 1);
        g.pass(1);
        C.due(-1, () -> g.price(0));
        amounts(g, FEEDER, 0);
        levels(g, 99);
    }

    private static void notLiveNothingMoves() {
        CopperDispatch g = stored(1, 9, 9, 50);
        g.stop(0);
        g.wind(0, true, 7);
        g.feeder(0, 3);
        g.pass(1);
        amounts(g, PLANT, 0);
        amounts(g, WHEEL, 0);
        amounts(g, FEEDER, 0);
        amounts(g, STORE, 0);
        levels(g, 50);
        C.due(0, () -> g.reading(0, 0));
    }

    private static void notLiveTheyStayServedOrShed() {
        CopperDispatch g = Grids.one(5, 6);
        g.feeder(0, 5);
        g.pass(1);
        shed(g, true, false);
        g.stop(0);
        g.setDemand(0, 0);
        g.pass(3);
        shed(g, true, false);
        C.due(-1, () -> g.price(0));
        g.start(0);
        g.pass(1);
        shed(g, false, false);
    }

    private static void liveForTheMinuteInWhichTheLastPlantGoesOff() {
        CopperDispatch g = new CopperDispatch();
        g.plant(0, 5, 9, 0, true);
        g.start(0);
        g.wheel(0);
        g.wind(0, true, 3);
        g.feeder(0, 3);
        g.feeder(0, 1);
        g.setDemand(1, 0);
        g.pass(1);
        C.due(0, () -> g.plantState(0));
        C.due(0, () -> g.price(0));
        amounts(g, FEEDER, 3, 0);
        amounts(g, WHEEL, 3);
        g.pass(1);
        C.due(-1, () -> g.price(0));
        amounts(g, FEEDER, 0, 0);
        amounts(g, WHEEL, 0);
    }

    private static void eachIslandHasItsOwnBalance() {
        CopperDispatch g = new CopperDispatch();
        for (int node = 0; node < 2; node++) {
            g.plant(node, 0, 10, 0, true);
            g.offer(node, 10 + node, 10);
            g.start(node);
            g.feeder(node, 4 + 7 * node);
        }
        g.clear(20);
        g.pass(1);
        amounts(g, PLANT, 4, 0);
        shed(g, false, true);
        C.due(10, () -> g.price(0));
        C.due(1000, () -> g.price(1));
        g.line(0, 1, 1, 99);
        g.pass(1);
        amounts(g, PLANT, 10, 5);
        shed(g, false, false);
        C.due(11, () -> g.price(0));
    }

    // ---- a feeder is served again

    private static void servedAgain() {
        servedIfItsDemandIsExactlyTheRoom();
        onlyOneIsServedAgainInAMinute();
        theFirstOneShedHoldsUpTheOthers();
        servedAgainAmongThoseWhoseSheddingIsLatest();
        roomHoldsTheBaseUpToTheLeastLoad();
        roomHasReservesUpToTheGreatestLoad();
        roomHasReservesOfBothClasses();
        roomHasNoPlantThatIsOff();
        roomHasWind();
        roomHasStoresByTheirRate();
        roomHasStoresByTheirLevel();
        noRoomForNothingWhereTooMuchIsServed();
    }

    private static void servedIfItsDemandIsExactlyTheRoom() {
        for (int more = 0; more < 2; more++) {
            CopperDispatch g = Grids.one(20, 30);
            g.feeder(0, 5);
            g.pass(1);
            shed(g, true, false);
            g.setDemand(0, 15 + more);
            g.pass(1);
            shed(g, more == 1, false);
        }
    }

    private static void onlyOneIsServedAgainInAMinute() {
        CopperDispatch g = Grids.one(20, 30);
        g.feeder(0, 30);
        g.feeder(0, 30);
        g.pass(1);
        shed(g, true, true, true);
        for (int k = 0; k < 3; k++) {
            g.setDemand(k, 1);
        }
        g.pass(1);
        shed(g, false, true, true);
        g.pass(1);
        shed(g, false, false, true);
        g.pass(1);
        shed(g, false, false, false);
    }

    private static void theFirstOneShedHoldsUpTheOthers() {
        CopperDispatch g = Grids.one(20, 30);
        g.feeder(0, 30);
        g.pass(1);
        shed(g, true, true);
        g.setDemand(0, 21);
        g.setDemand(1, 1);
        g.pass(2);
        shed(g, true, true);
        g.setDemand(0, 20);
        g.pass(1);
        shed(g, false, true);
    }

    /** 0 is shed, served, and shed again behind 1. */
    private static void servedAgainAmongThoseWhoseSheddingIsLatest() {
        CopperDispatch g = Grids.one(20, 30);
        g.feeder(0, 0);
        g.pass(1);
        g.setDemand(0, 0);
        g.pass(1);
        shed(g, false, false);
        g.setDemand(1, 30);
        g.pass(1);
        shed(g, false, true);
        g.setDemand(0, 30);
        g.pass(1);
        shed(g, true, true);
        g.setDemand(0, 1);
        g.setDemand(1, 1);
        g.pass(1);
        shed(g, true, false);
        g.pass(1);
        shed(g, false, false);
    }

    /** The base is 0, but the plant makes 10, which is the room for 10 and not for 11. */
    private static void roomHoldsTheBaseUpToTheLeastLoad() {
        for (int more = 0; more < 2; more++) {
            CopperDispatch g = new CopperDispatch();
            g.plant(0, 10, 30, 0, true);
            g.start(0);
            g.feeder(0, 5);
            g.feeder(0, 10);
            g.pass(1);
            shed(g, true, false);
            g.setDemand(1, 5);
            g.setDemand(0, 5 + more);
            g.store(0, 9, 9, 0);
            g.pass(1);
            shed(g, more == 1, false);
        }
    }

    /** Minute 10: the plant makes 10, feeder 1 uses them, and feeder 0 is shed; what is sold is for the hour to come. */
    private static CopperDispatch sellingForNextHour(int most, int ofZero, int ofOne, int wanted) {
        CopperDispatch g = new CopperDispatch();
        g.plant(0, 10, most, 0, true);
        g.start(0);
        g.feeder(0, 50);
        g.feeder(0, 10);
        g.pass(10);
        shed(g, true, false);
        g.reserve(0, 0, ofZero, 1);
        g.reserve(0, 1, ofOne, 1);
        g.setDemand(0, wanted);
        g.pass(1);
        return g;
    }

    /** It makes 10 and has 20 sold, but cannot make more than 20. */
    private static void roomHasReservesUpToTheGreatestLoad() {
        CopperDispatch g = sellingForNextHour(20, 19, 1, 10);
        shed(g, false, false);
        left(g, 0, 9, 1);
        CopperDispatch h = sellingForNextHour(20, 19, 1, 11);
        shed(h, true, false);
        left(h, 0, 19, 1);
    }

    private static void roomHasReservesOfBothClasses() {
        CopperDispatch g = sellingForNextHour(99, 4, 5, 9);
        shed(g, false, false);
        left(g, 0, 0, 0);
        CopperDispatch h = sellingForNextHour(99, 4, 5, 10);
        shed(h, true, false);
        left(h, 0, 4, 5);
    }

    private static void roomHasNoPlantThatIsOff() {
        CopperDispatch g = Grids.one(10, 20);
        g.plant(0, 5, 99, 3, true);
        g.pass(1);
        shed(g, true);
        g.setDemand(0, 11);
        g.start(1);
        g.pass(2);
        shed(g, true);
        g.pass(1);
        C.due(2, () -> g.plantState(1));
        shed(g, false);
    }

    private static void roomHasWind() {
        for (int more = 0; more < 2; more++) {
            CopperDispatch g = Grids.one(10, 20);
            g.wheel(0);
            g.wheel(0);
            g.wind(1, true, 1);
            g.pass(1);
            shed(g, true);
            g.wind(0, true, 5);
            g.setDemand(0, 16 + more);
            g.pass(1);
            shed(g, more == 1);
        }
    }

    private static void roomHasStoresByTheirRate() {
        for (int more = 0; more < 2; more++) {
            CopperDispatch g = stored(4, 9, 4, 0);
            g.wind(0, true, 4);
            g.pass(1);
            levels(g, 800);
            g.wind(0, true, 0);
            g.feeder(0, 30);
            g.pass(1);
            shed(g, true);
            levels(g, 800);
            g.setDemand(0, 4 + more);
            g.pass(1);
            shed(g, more == 1);
            levels(g, more == 1 ? 800 : 400);
        }
    }

    private static void roomHasStoresByTheirLevel() {
        for (int more = 0; more < 2; more++) {
            // 5 taken in with a loss of 40: 300, which is 3 to give.
            CopperDispatch g = stored(5, 9, 9, 40);
            levels(g, 300);
            g.feeder(0, 30);
            g.pass(1);
            shed(g, true);
            g.setDemand(0, 3 + more);
            g.pass(1);
            shed(g, more == 1);
            levels(g, more == 1 ? 300 : 0);
        }
    }

    /** 9 are served of a room of 5: a demand of 0 is more than what is left, and 0 has to wait. */
    private static void noRoomForNothingWhereTooMuchIsServed() {
        CopperDispatch g = Grids.one(5, 6);
        g.feeder(0, 0);
        g.pass(1);
        shed(g, true, false);
        g.setDemand(0, 0);
        g.setDemand(1, 9);
        g.pass(1);
        shed(g, true, true);
        g.pass(1);
        shed(g, false, true);
    }

    // ---- short

    private static void tooLittle() {
        enoughExactlyCallsNothing();
        oneTooLittleCallsOne();
        classZeroGoesFirst();
        reservesGoByPrice();
        reservesOfOnePriceGoByPlant();
        reservesOfPlantsThatAreOnAlone();
        reservesOfItsIslandAlone();
        reservesAsTheGreatestLoadAllows();
        calledReserveIsOneNoLonger();
        baseBecomesItsLoadAndWhatIsCalled();
        baseIsBackInTheNextHour();
        reservesAheadOfStores();
        storesGiveByNumbers();
        storesGiveTheirRateAtMost();
        storesGiveWholeHundreds();
        storesAheadOfShedding();
    }

    /** 10 scheduled of 30, and 5 of each class sold, with a demand. */
    private static CopperDispatch reserved(int demand) {
        CopperDispatch g = new CopperDispatch();
        g.plant(0, 0, 30, 0, true);
        g.offer(0, 8, 30);
        g.clear(10);
        g.reserve(0, 0, 5, 70);
        g.reserve(0, 1, 5, 60);
        g.start(0);
        g.feeder(0, demand);
        return g;
    }

    private static void left(CopperDispatch g, int plant, int ofZero, int ofOne) {
        C.due(ofZero, () -> g.left(plant, 0));
        C.due(ofOne, () -> g.left(plant, 1));
    }

    private static void enoughExactlyCallsNothing() {
        CopperDispatch g = reserved(10);
        g.pass(1);
        left(g, 0, 5, 5);
        C.due(10, () -> g.base(0));
        C.due(8, () -> g.price(0));
    }

    private static void oneTooLittleCallsOne() {
        CopperDispatch g = reserved(11);
        g.pass(1);
        left(g, 0, 4, 5);
        C.due(11, () -> g.base(0));
        C.due(70, () -> g.price(0));
    }

    private static void classZeroGoesFirst() {
        CopperDispatch g = reserved(15);
        g.pass(1);
        left(g, 0, 0, 5);
        g.setDemand(0, 16);
        g.pass(1);
        left(g, 0, 0, 4);
        g.setDemand(0, 20);
        g.pass(1);
        left(g, 0, 0, 0);
        C.due(20, () -> g.base(0));
        shed(g, false);
        g.setDemand(0, 21);
        g.pass(1);
        shed(g, true);
    }

    private static CopperDispatch twoReserves(int price, int other, int demand) {
        CopperDispatch g = new CopperDispatch();
        for (int k = 0; k < 2; k++) {
            g.plant(0, 0, 30, 0, true);
            g.start(k);
            g.reserve(k, 1, 5, k == 0 ? price : other);
        }
        g.feeder(0, demand);
        return g;
    }

    private static void reservesGoByPrice() {
        CopperDispatch g = twoReserves(51, 50, 6);
        g.pass(1);
        left(g, 0, 0, 4);
        left(g, 1, 0, 0);
        C.due(51, () -> g.price(0));
    }

    private static void reservesOfOnePriceGoByPlant() {
        CopperDispatch g = twoReserves(50, 50, 6);
        g.pass(1);
        left(g, 0, 0, 0);
        left(g, 1, 0, 4);
    }

    private static void reservesOfPlantsThatAreOnAlone() {
        CopperDispatch g = twoReserves(10, 50, 5);
        g.stop(0);
        g.pass(1);
        left(g, 0, 0, 5);
        left(g, 1, 0, 0);
        C.due(50, () -> g.price(0));
    }

    private static void reservesOfItsIslandAlone() {
        CopperDispatch g = twoReserves(10, 50, 5);
        g.plant(7, 0, 30, 0, true);
        g.reserve(2, 0, 30, 1);
        g.start(2);
        g.pass(1);
        left(g, 2, 30, 0);
        left(g, 0, 0, 0);
    }

    /** It makes 8 of 10 by its least load, and has 6 sold: 2 are called, and 1 is of the other plant. */
    private static void reservesAsTheGreatestLoadAllows() {
        CopperDispatch g = new CopperDispatch();
        g.plant(0, 8, 10, 0, true);
        g.plant(0, 0, 10, 0, true);
        g.reserve(0, 0, 6, 1);
        g.reserve(0, 1, 4, 1);
        g.reserve(1, 0, 6, 2);
        g.start(0);
        g.start(1);
        g.feeder(0, 11);
        g.pass(1);
        left(g, 0, 4, 4);
        left(g, 1, 5, 0);
        C.due(10, () -> g.base(0));
        C.due(1, () -> g.base(1));
        amounts(g, PLANT, 10, 1);
    }

    private static void calledReserveIsOneNoLonger() {
        CopperDispatch g = reserved(13);
        g.pass(1);
        left(g, 0, 2, 5);
        g.pass(1);
        left(g, 0, 2, 5);
        g.setDemand(0, 3);
        g.pass(1);
        left(g, 0, 2, 5);
        C.due(13, () -> g.base(0));
        g.setDemand(0, 14);
        g.pass(1);
        left(g, 0, 1, 5);
    }

    /** The load is 8, though the base is 0. */
    private static void baseBecomesItsLoadAndWhatIsCalled() {
        CopperDispatch g = new CopperDispatch();
        g.plant(0, 8, 20, 0, true);
        g.reserve(0, 0, 2, 1);
        g.reserve(0, 1, 4, 1);
        g.start(0);
        g.feeder(0, 11);
        C.due(0, () -> g.base(0));
        g.pass(1);
        C.due(11, () -> g.base(0));
        left(g, 0, 0, 3);
    }

    private static void baseIsBackInTheNextHour() {
        CopperDispatch g = reserved(13);
        g.pass(1);
        g.clear(10);
        g.pass(9);
        C.due(13, () -> g.base(0));
        g.setDemand(0, 10);
        g.pass(1);
        C.due(10, () -> g.base(0));
        left(g, 0, 0, 0);
    }

    private static void reservesAheadOfStores() {
        CopperDispatch g = new CopperDispatch();
        g.plant(0, 0, 30, 0, true);
        g.start(0);
        g.wheel(0);
        g.wind(0, true, 5);
        g.store(0, 9, 5, 0);
        g.reserve(0, 1, 3, 999);
        g.pass(1);
        g.wind(0, true, 0);
        g.feeder(0, 4);
        g.pass(1);
        left(g, 0, 0, 0);
        levels(g, 400);
    }

    private static CopperDispatch threeStores() {
        CopperDispatch g = new CopperDispatch();
        g.plant(0, 0, 1, 0, true);
        g.start(0);
        g.wheel(0);
        g.wind(0, true, 15);
        for (int k = 0; k < 3; k++) {
            g.store(0, 9, 5, 0);
        }
        g.pass(1);
        levels(g, 500, 500, 500);
        g.wind(0, true, 0);
        g.feeder(0, 0);
        return g;
    }

    private static void storesGiveByNumbers() {
        CopperDispatch g = threeStores();
        g.setDemand(0, 4);
        g.pass(1);
        amounts(g, STORE, 4, 0, 0);
        levels(g, 100, 500, 500);
        g.setDemand(0, 7);
        g.pass(1);
        amounts(g, STORE, 1, 5, 1);
        levels(g, 0, 0, 400);
    }

    private static void storesGiveTheirRateAtMost() {
        CopperDispatch g = threeStores();
        g.setDemand(0, 15);
        g.pass(1);
        amounts(g, STORE, 5, 5, 5);
        CopperDispatch h = threeStores();
        h.setDemand(0, 16);
        h.pass(1);
        shed(h, true);
        amounts(h, STORE, 0, 0, 0);
        levels(h, 500, 500, 500);
    }

    /** 198 are 1 to give, not 2. */
    private static void storesGiveWholeHundreds() {
        for (int more = 0; more < 2; more++) {
            CopperDispatch g = stored(1, 9, 9, 1);
            g.wind(0, true, 1);
            g.pass(1);
            levels(g, 198);
            g.wind(0, true, 0);
            g.feeder(0, 1 + more);
            g.pass(1);
            shed(g, more == 1);
            levels(g, more == 1 ? 198 : 98);
        }
    }

    private static void storesAheadOfShedding() {
        CopperDispatch g = threeStores();
        g.setDemand(0, 5);
        g.feeder(0, 10);
        g.pass(1);
        shed(g, false, false);
        levels(g, 0, 0, 0);
    }

    // ---- shedding

    private static void shedding() {
        shedOnlyAsLongAsItIsShort();
        noneIsShedForNothing();
        neverShedTheLowestFirst();
        neverShedAheadOfThoseShedLongAgo();
        thenWhoseLatestSheddingIsAhead();
        sheddingIsOfItsIslandAlone();
    }

    private static void shedOnlyAsLongAsItIsShort() {
        CopperDispatch g = Grids.one(10, 4);
        g.feeder(0, 4);
        g.feeder(0, 4);
        g.pass(1);
        shed(g, true, false, false);
        amounts(g, FEEDER, 0, 4, 4);
        amounts(g, PLANT, 8);
        CopperDispatch h = Grids.one(10, 4);
        h.feeder(0, 4);
        h.feeder(0, 7);
        h.pass(1);
        // 11 of 10 still, behind the first one.
        shed(h, true, true, false);
    }

    private static void noneIsShedForNothing() {
        CopperDispatch g = Grids.one(10, 0);
        g.feeder(0, 11);
        g.pass(1);
        shed(g, false, true);
    }

    private static void neverShedTheLowestFirst() {
        CopperDispatch g = Grids.one(10, 1);
        g.feeder(0, 10);
        g.pass(1);
        shed(g, true, false);
    }

    private static void neverShedAheadOfThoseShedLongAgo() {
        CopperDispatch g = Grids.one(10, 11);
        g.feeder(0, 0);
        g.pass(1);
        g.setDemand(0, 5);
        g.pass(1);
        shed(g, false, false);
        g.setDemand(1, 6);
        g.pass(1);
        shed(g, false, true);
    }

    private static void thenWhoseLatestSheddingIsAhead() {
        CopperDispatch g = Grids.one(10, 0);
        g.feeder(0, 0);
        g.feeder(0, 0);
        // Shed in the order 2, 0, 1, each alone.
        for (int feeder : new int[] {2, 0, 1}) {
            g.setDemand(feeder, 11);
            g.pass(1);
            C.due(true, () -> g.isShed(feeder));
            g.setDemand(feeder, 0);
            g.pass(1);
            shed(g, false, false, false);
        }
        for (int k = 0; k < 3; k++) {
            g.setDemand(k, 5);
        }
        g.pass(1);
        shed(g, false, false, true);
        g.setDemand(0, 6);
        g.pass(1);
        shed(g, true, false, true);
    }

    private static void sheddingIsOfItsIslandAlone() {
        CopperDispatch g = new CopperDispatch();
        g.feeder(0, 5);
        g.feeder(1, 5);
        g.plant(0, 0, 9, 0, true);
        g.plant(1, 0, 9, 0, true);
        g.start(0);
        g.offer(0, 1, 9);
        g.clear(9);
        g.start(1);
        g.pass(1);
        shed(g, false, true);
    }

    // ---- too much

    private static void tooMuch() {
        enoughExactlyTakesNothing();
        storesTakeInByNumbers();
        storesTakeTheirRateAtMost();
        storesTakeUpToTheirRoom();
        storesTakeAheadOfPlants();
        storesTakeWhatSheddingLeaves();
        storeThatGivesTakesNothing();
        storeThatCouldNotGiveTakes();
        plantsMakeLessDownToTheirLeastLoad();
        dearestIsByTheLastStep();
        dearestOfSeveralIsTheHighestNumber();
        dearestWithoutOffersIsOfPriceZero();
        plantsAheadOfWheels();
        wheelsMakeLessByNumbers();
        storesGiveLessByNumbers();
        leastLoadExactlyUsedStaysOn();
        leastLoadOneTooMuchGoesOff();
        onlyTheDearestGoesOff();
        severalGoOff();
        servedAgainIsNotUndone();
        whatWasCalledIsUndone();
        whatWasGivenIsUndone();
        whatWasShedIsUndone();
        theTurnsAreUndone();
        whatWasShedBeforeStaysShed();
        whatWasCalledBeforeStaysCalled();
    }

    private static void enoughExactlyTakesNothing() {
        CopperDispatch g = Grids.one(10, 10);
        g.store(0, 9, 5, 0);
        g.pass(1);
        amounts(g, STORE, 0);
        amounts(g, PLANT, 10);
        g.setDemand(0, 9);
        g.pass(1);
        amounts(g, STORE, -1);
        amounts(g, PLANT, 10);
        levels(g, 100);
    }

    private static void storesTakeInByNumbers() {
        CopperDispatch g = Grids.one(12, 0);
        for (int k = 0; k < 3; k++) {
            g.store(0, 9, 5, 0);
        }
        g.pass(1);
        amounts(g, STORE, -5, -5, -2);
        amounts(g, PLANT, 12);
        levels(g, 500, 500, 200);
    }

    private static void storesTakeTheirRateAtMost() {
        CopperDispatch g = Grids.one(51, 0);
        g.store(0, 999, 50, 0);
        g.pass(1);
        amounts(g, STORE, -50);
        amounts(g, PLANT, 50);
        levels(g, 5000);
    }

    /** With a loss of 50 each one is 50 more: 3 for a room of 1 would be 150. */
    private static void storesTakeUpToTheirRoom() {
        CopperDispatch g = Grids.one(90, 0);
        g.store(0, 1, 50, 50);
        g.store(0, 1, 50, 0);
        g.store(0, 1, 50, 49);
        g.pass(1);
        amounts(g, STORE, -2, -1, -1);
        levels(g, 100, 100, 51);
        g.pass(1);
        amounts(g, STORE, 0, 0, 0);
        amounts(g, PLANT, 0);
    }

    private static void storesTakeAheadOfPlants() {
        CopperDispatch g = Grids.one(10, 7);
        g.store(0, 9, 2, 0);
        g.pass(1);
        amounts(g, STORE, -2);
        amounts(g, PLANT, 9);
    }

    private static void storesTakeWhatSheddingLeaves() {
        CopperDispatch g = Grids.one(10, 9);
        g.feeder(0, 2);
        g.store(0, 9, 4, 0);
        g.pass(1);
        shed(g, true, false);
        amounts(g, STORE, -4);
        amounts(g, PLANT, 6);
    }

    private static void storeThatGivesTakesNothing() {
        CopperDispatch g = stored(1, 9, 9, 0);
        g.store(0, 9, 1, 0);
        g.wind(0, true, 3);
        g.feeder(0, 9);
        g.feeder(0, 3);
        g.pass(1);
        // 12 of 3 and 1: 9 are shed. Store 1 takes in 1; store 0 has given 1, and takes in nothing.
        shed(g, true, false);
        amounts(g, STORE, 1, -1);
        levels(g, 0, 100);
    }

    /** One that is empty has not given in this minute. */
    private static void storeThatCouldNotGiveTakes() {
        CopperDispatch g = Grids.one(5, 9);
        g.store(0, 9, 3, 0);
        g.pass(1);
        shed(g, true);
        amounts(g, STORE, -3);
        amounts(g, PLANT, 3);
    }

    /** Two plants of least 4 that make 10 each, with the prices of their last steps. */
    private static CopperDispatch twoPlants(int price, int other, int demand) {
        CopperDispatch g = new CopperDispatch();
        for (int k = 0; k < 2; k++) {
            g.plant(0, 4, 10, 0, true);
            g.start(k);
            g.offer(k, 0, 5);
            g.offer(k, k == 0 ? price : other, 5);
        }
        g.clear(20);
        g.feeder(0, demand);
        return g;
    }

    private static void plantsMakeLessDownToTheirLeastLoad() {
        CopperDispatch g = twoPlants(7, 6, 15);
        g.pass(1);
        amounts(g, PLANT, 5, 10);
        g.setDemand(0, 13);
        g.pass(1);
        amounts(g, PLANT, 4, 9);
        g.setDemand(0, 8);
        g.pass(1);
        amounts(g, PLANT, 4, 4);
        C.due(10, () -> g.base(0));
    }

    /** 1 begins dearer, but ends cheaper. */
    private static void dearestIsByTheLastStep() {
        CopperDispatch g = new CopperDispatch();
        g.plant(0, 0, 10, 0, true);
        g.plant(0, 0, 10, 0, true);
        g.offer(0, 1, 5);
        g.offer(0, 9, 5);
        g.offer(1, 8, 10);
        g.clear(20);
        g.start(0);
        g.start(1);
        g.feeder(0, 12);
        g.pass(1);
        amounts(g, PLANT, 2, 10);
    }

    private static void dearestOfSeveralIsTheHighestNumber() {
        CopperDispatch g = twoPlants(6, 6, 15);
        g.pass(1);
        amounts(g, PLANT, 10, 5);
        g.setDemand(0, 7);
        g.pass(1);
        C.due(2, () -> g.plantState(0));
        C.due(0, () -> g.plantState(1));
    }

    private static void dearestWithoutOffersIsOfPriceZero() {
        CopperDispatch g = twoPlants(1, 6, 15);
        g.pass(1);
        amounts(g, PLANT, 10, 5);
        g.withdraw(1);
        g.pass(1);
        amounts(g, PLANT, 5, 10);
        g.withdraw(0);
        g.pass(1);
        amounts(g, PLANT, 10, 5);
    }

    private static void plantsAheadOfWheels() {
        CopperDispatch g = Grids.one(10, 12);
        g.wheel(0);
        g.wind(0, true, 12);
        g.pass(1);
        amounts(g, PLANT, 0);
        amounts(g, WHEEL, 12);
        g.setDemand(0, 11);
        g.pass(1);
        amounts(g, WHEEL, 11);
    }

    private static void wheelsMakeLessByNumbers() {
        CopperDispatch g = Grids.one(0, 10);
        for (int k = 0; k < 3; k++) {
            g.wheel(0);
            g.wind(k, true, 6);
        }
        g.pass(1);
        amounts(g, WHEEL, 0, 4, 6);
    }

    /** 30 are shed behind what the stores gave: 10 are given, and 7 wanted. */
    private static void storesGiveLessByNumbers() {
        CopperDispatch g = threeStores();
        g.setDemand(0, 30);
        g.feeder(0, 7);
        g.pass(1);
        shed(g, true, false);
        amounts(g, STORE, 0, 2, 5);
        levels(g, 500, 300, 0);
    }

    private static CopperDispatch leastOf5(int demand) {
        CopperDispatch g = new CopperDispatch();
        g.plant(0, 5, 9, 0, true);
        g.start(0);
        g.wheel(0);
        g.wind(0, true, 3);
        g.feeder(0, demand);
        return g;
    }

    private static void leastLoadExactlyUsedStaysOn() {
        CopperDispatch g = leastOf5(5);
        g.pass(1);
        C.due(2, () -> g.plantState(0));
        amounts(g, PLANT, 5);
        amounts(g, WHEEL, 0);
    }

    /** 4 of 5: the plant goes OFF; then 3 are less than 4, which are shed. */
    private static void leastLoadOneTooMuchGoesOff() {
        CopperDispatch g = leastOf5(4);
        g.pass(1);
        C.due(0, () -> g.plantState(0));
        amounts(g, PLANT, 0);
        amounts(g, WHEEL, 0);
        shed(g, true);
        C.due(1000, () -> g.price(0));
        CopperDispatch h = leastOf5(3);
        h.pass(1);
        C.due(0, () -> h.plantState(0));
        amounts(h, WHEEL, 3);
        shed(h, false);
        C.due(0, () -> h.price(0));
    }

    private static void onlyTheDearestGoesOff() {
        CopperDispatch g = twoPlants(7, 6, 7);
        g.pass(1);
        C.due(0, () -> g.plantState(0));
        C.due(2, () -> g.plantState(1));
        amounts(g, PLANT, 0, 7);
        C.due(10, () -> g.base(0));
    }

    private static void severalGoOff() {
        CopperDispatch g = twoPlants(7, 6, 3);
        g.pass(1);
        C.due(0, () -> g.plantState(0));
        C.due(0, () -> g.plantState(1));
        shed(g, true);
        amounts(g, FEEDER, 0);
        C.due(1000, () -> g.price(0));
    }

    /** A feeder is served again, then the dearest goes OFF; what the store took in is not, that the feeder is back is. */
    private static void servedAgainIsNotUndone() {
        CopperDispatch g = new CopperDispatch();
        g.plant(0, 20, 30, 0, true);
        g.plant(0, 0, 30, 0, true);
        g.start(1);
        g.wheel(0);
        g.feeder(0, 6);
        g.pass(1);
        shed(g, true);
        g.offer(0, 9, 1);
        g.start(0);
        g.wind(0, true, 8);
        g.store(0, 99, 10, 0);
        g.pass(1);
        // 28 for 6: 10 taken in, 8 less wind, 4 too much: plant 0 goes OFF. Then 8 for 6: 2 are taken in.
        C.due(0, () -> g.plantState(0));
        shed(g, false);
        amounts(g, PLANT, 0, 0);
        amounts(g, WHEEL, 8);
        amounts(g, STORE, -2);
        levels(g, 200);
    }

    /** Plant 0 makes 20 at the least, and is the dearest; plant 1 makes nothing. The wheel fills the store. */
    private static CopperDispatch leastOf20() {
        CopperDispatch g = new CopperDispatch();
        g.plant(0, 20, 30, 0, true);
        g.plant(0, 0, 30, 0, true);
        g.offer(0, 9, 1);
        g.start(1);
        g.wheel(0);
        g.wind(0, true, 4);
        g.store(0, 4, 4, 0);
        g.reserve(0, 0, 5, 80);
        g.reserve(1, 0, 6, 70);
        g.pass(1);
        levels(g, 400);
        g.wind(0, true, 0);
        g.start(0);
        return g;
    }

    /** 40 of 20: 11 are called and 4 given, and 31 shed; 9 of 20 are too little, so plant 0 goes OFF. */
    private static void whatWasCalledIsUndone() {
        CopperDispatch g = leastOf20();
        g.feeder(0, 31);
        g.feeder(0, 9);
        g.pass(1);
        // Then 40 of 0: 6 of plant 1 are called and 4 given, and 31 shed.
        C.due(0, () -> g.plantState(0));
        left(g, 0, 5, 0);
        left(g, 1, 0, 0);
        C.due(0, () -> g.base(0));
        C.due(6, () -> g.base(1));
        shed(g, true, false);
        amounts(g, PLANT, 0, 5);
        // What was not called has no price, once the plant is ON again.
        g.setDemand(0, 0);
        g.setDemand(1, 20);
        g.start(0);
        g.pass(1);
        shed(g, false, false);
        left(g, 0, 5, 0);
        C.due(70, () -> g.price(0));
    }

    /** 33 of 20: 11 are called and 2 given, and nothing shed; with 13 less they are too much. */
    private static void whatWasGivenIsUndone() {
        CopperDispatch g = leastOf20();
        g.feeder(0, 31);
        g.feeder(0, 2);
        g.pass(1);
        amounts(g, STORE, 2);
        levels(g, 200);
        C.due(2, () -> g.plantState(0));
        CopperDispatch h = leastOf20();
        h.feeder(0, 40);
        h.feeder(0, 2);
        h.pass(1);
        // 42 of 20: 11 called, 4 given, 40 shed, too much. Without plant 0: 6 called, 4 given, 40 shed; 2 of plant 1.
        C.due(0, () -> h.plantState(0));
        amounts(h, PLANT, 0, 0);
        amounts(h, STORE, 2);
        levels(h, 200);
        shed(h, true, false);
    }

    /** What is called anew is called for the demand of all who were served at first. */
    private static void whatWasShedIsUndone() {
        CopperDispatch g = leastOf20();
        g.feeder(0, 3);
        g.feeder(0, 40);
        g.pass(1);
        // 43 of 20: 11 called, 4 given; 3 shed, then 40: too much. Then 6 called and 4 given for 43: 3 are shed, then 40.
        C.due(0, () -> g.plantState(0));
        shed(g, true, true);
        left(g, 0, 5, 0);
        left(g, 1, 0, 0);
        C.due(6, () -> g.base(1));
        amounts(g, PLANT, 0, 0);
        amounts(g, STORE, 0);
        levels(g, 400);
        CopperDispatch h = new CopperDispatch();
        h.plant(0, 20, 30, 0, true);
        h.plant(0, 0, 30, 0, true);
        h.offer(0, 9, 1);
        h.wheel(0);
        h.wind(0, true, 5);
        h.start(0);
        h.start(1);
        h.feeder(0, 4);
        h.feeder(0, 0);
        h.pass(1);
        // 25 for 4: nothing is short, and 0 is not shed then, nor behind that.
        C.due(0, () -> h.plantState(0));
        shed(h, false, false);
        amounts(h, FEEDER, 4, 0);
        amounts(h, WHEEL, 4);
    }

    /** Feeder 0 was shed ahead of 1 long ago; what is shed for the sake of a plant that goes OFF does not turn that. */
    private static void theTurnsAreUndone() {
        CopperDispatch g = new CopperDispatch();
        g.plant(0, 0, 30, 0, true);
        g.plant(0, 20, 20, 0, true);
        g.offer(0, 1, 30);
        g.offer(1, 9, 1);
        g.clear(10);
        g.start(0);
        g.start(1);
        g.feeder(0, 25);
        g.feeder(0, 0);
        g.feeder(0, 60);
        g.feeder(0, 6);
        // 91 of 30: 0 and 2 are shed; 24 too much, 10 of plant 0 and then all of plant 1. Then 91 of 10: the same two.
        g.pass(1);
        C.due(0, () -> g.plantState(1));
        shed(g, true, false, true, false);
        g.setDemand(0, 4);
        g.setDemand(2, 4);
        g.pass(1);
        // 0 is the first one that comes back, then 4 more fit not: 2 waits.
        shed(g, false, false, true, false);
        g.setDemand(3, 2);
        g.pass(1);
        shed(g, false, false, false, false);
        g.setDemand(3, 6);
        // Never shed is 3 alone, then 0 ahead of 2.
        g.setDemand(0, 10);
        g.setDemand(2, 10);
        g.pass(1);
        shed(g, true, false, false, true);
    }

    /** 1 was shed, then 0, in earlier minutes: they stay so, and in this order, when a plant goes OFF. */
    private static void whatWasShedBeforeStaysShed() {
        CopperDispatch g = Grids.one(10, 0);
        g.feeder(0, 12);
        g.feeder(0, 1);
        g.pass(1);
        shed(g, false, true, false);
        g.setDemand(0, 12);
        g.pass(1);
        shed(g, true, true, false);
        g.plant(0, 20, 20, 0, true);
        g.offer(1, 9, 1);
        g.start(1);
        g.setDemand(0, 0);
        g.setDemand(1, 31);
        g.pass(1);
        // 31 does not fit beside 1 of 30, so 0 has to wait; 29 are too much, and plant 1 goes OFF.
        C.due(0, () -> g.plantState(1));
        shed(g, true, true, false);
        C.due(1000, () -> g.price(0));
        amounts(g, PLANT, 1, 0);
        g.setDemand(0, 3);
        g.setDemand(1, 3);
        g.pass(1);
        shed(g, true, false, false);
        g.pass(1);
        shed(g, false, false, false);
        // Never shed is 2 alone; then 1 is ahead of 0 still.
        g.setDemand(0, 8);
        g.setDemand(1, 8);
        g.pass(1);
        shed(g, false, true, true);
    }

    /** A reserve that was called in an earlier minute of the hour has its price still when another plant goes OFF. */
    private static void whatWasCalledBeforeStaysCalled() {
        CopperDispatch g = reserved(11);
        g.pass(1);
        left(g, 0, 4, 5);
        g.plant(0, 20, 20, 0, true);
        g.offer(1, 9, 1);
        g.start(1);
        g.pass(1);
        C.due(0, () -> g.plantState(1));
        left(g, 0, 4, 5);
        C.due(11, () -> g.base(0));
        C.due(70, () -> g.price(0));
    }

    // ---- prices

    private static void prices() {
        priceWhereAFeederIsShedSinceLong();
        priceWhereOneOfNothingIsShed();
        priceOfCalledReservesLastsTheHour();
        priceOfCalledReservesOfPlantsThatAreOn();
        priceOfReservesNotCalledCountsNot();
        priceOfAStepUsedToItsEnd();
        priceOfAStepOfWhichOneIsUsed();
        priceOfNothingMade();
        priceBeyondAllSteps();
        priceIsTheGreatestOfAll();
        priceOfOffersAsTheyAreNow();
        priceIsOfTheMinuteThatWasLast();
    }

    private static void priceWhereAFeederIsShedSinceLong() {
        CopperDispatch g = Grids.one(10, 11);
        for (int k = 0; k < 5; k++) {
            g.pass(1);
            C.due(1000, () -> g.price(0));
        }
        g.setDemand(0, 10);
        g.pass(1);
        C.due(8, () -> g.price(0));
    }

    /** A feeder that is shed and wants nothing now, but is not yet served. */
    private static void priceWhereOneOfNothingIsShed() {
        CopperDispatch g = Grids.one(10, 11);
        g.feeder(0, 11);
        g.pass(1);
        shed(g, true, true);
        g.setDemand(0, 0);
        g.setDemand(1, 0);
        g.pass(1);
        shed(g, false, true);
        C.due(1000, () -> g.price(0));
        g.pass(1);
        C.due(0, () -> g.price(0));
    }

    private static void priceOfCalledReservesLastsTheHour() {
        CopperDispatch g = reserved(11);
        g.pass(1);
        g.clear(10);
        g.reserve(0, 0, 1, 90);
        g.setDemand(0, 1);
        g.pass(9);
        C.due(70, () -> g.price(0));
        g.pass(1);
        C.due(8, () -> g.price(0));
    }

    private static void priceOfCalledReservesOfPlantsThatAreOn() {
        CopperDispatch g = twoReserves(50, 60, 6);
        g.pass(1);
        C.due(60, () -> g.price(0));
        g.setDemand(0, 0);
        g.stop(1);
        g.pass(1);
        C.due(50, () -> g.price(0));
        g.start(1);
        g.pass(1);
        C.due(60, () -> g.price(0));
    }

    private static void priceOfReservesNotCalledCountsNot() {
        CopperDispatch g = twoReserves(50, 60, 5);
        g.pass(1);
        C.due(50, () -> g.price(0));
    }

    private static CopperDispatch steps(int demand) {
        CopperDispatch g = new CopperDispatch();
        g.plant(0, 0, 30, 0, true);
        g.offer(0, 4, 5);
        g.offer(0, 6, 5);
        g.clear(10);
        g.start(0);
        g.feeder(0, demand);
        g.pass(1);
        return g;
    }

    private static void priceOfAStepUsedToItsEnd() {
        C.due(4, () -> steps(5).price(0));
        C.due(6, () -> steps(10).price(0));
    }

    private static void priceOfAStepOfWhichOneIsUsed() {
        C.due(4, () -> steps(1).price(0));
        C.due(6, () -> steps(6).price(0));
    }

    private static void priceOfNothingMade() {
        C.due(0, () -> steps(0).price(0));
    }

    /** A plant whose least load is above all its steps uses them all. */
    private static void priceBeyondAllSteps() {
        CopperDispatch g = new CopperDispatch();
        g.plant(0, 12, 30, 0, true);
        g.offer(0, 4, 5);
        g.offer(0, 6, 5);
        g.start(0);
        g.feeder(0, 12);
        g.pass(1);
        C.due(6, () -> g.price(0));
    }

    private static void priceIsTheGreatestOfAll() {
        CopperDispatch g = twoPlants(7, 6, 20);
        g.pass(1);
        C.due(7, () -> g.price(0));
        g.setDemand(0, 15);
        g.pass(1);
        // Plant 0 makes 5, which is its first step, for nothing.
        C.due(6, () -> g.price(0));
        // A reserve is dearer than all steps; then steps are dearer than the reserve.
        CopperDispatch h = reserved(11);
        h.pass(1);
        C.due(70, () -> h.price(0));
        h.withdraw(0);
        h.offer(0, 71, 1);
        h.pass(1);
        C.due(71, () -> h.price(0));
    }

    private static void priceOfOffersAsTheyAreNow() {
        CopperDispatch g = Grids.one(10, 10);
        g.pass(1);
        C.due(8, () -> g.price(0));
        g.withdraw(0);
        C.due(8, () -> g.price(0));
        g.pass(1);
        C.due(0, () -> g.price(0));
        g.offer(0, 999, 1);
        g.pass(1);
        C.due(999, () -> g.price(0));
    }

    private static void priceIsOfTheMinuteThatWasLast() {
        CopperDispatch g = Grids.one(10, 10);
        C.due(-1, () -> g.price(0));
        g.pass(1);
        g.line(0, 1, 1, 1);
        C.due(8, () -> g.price(0));
        C.due(-1, () -> g.price(1));
        g.stop(0);
        C.due(8, () -> g.price(0));
        g.pass(1);
        C.due(-1, () -> g.price(0));
    }
}
