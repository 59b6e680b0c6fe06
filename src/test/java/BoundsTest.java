/**
 * Each argument of each method: the last value that is taken and the first one that is refused, on either side, and
 * values far away; a method for each argument.
 */
public final class BoundsTest {
    private static final Check C = new Check();

    private BoundsTest() { }

    public static void main(String[] args) {
        theNet();
        plants();
        marketAndReserves();
        feedersWheelsStores();
        minutesAndBills();
        lastNumbersOfAFullGrid();
        C.end();
    }

    private static void theNet() {
        promise2LineOne();
        promise2LineOther();
        promise2LineLength();
        promise2LineLimit();
        promise3SwitchLineLine();
        promise4StormLine();
        promise5PermitCrew();
        promise5PermitLine();
        promise5PermitMinutes();
        promise6GiveBackCrew();
        promise7StateOfLine();
        promise8HeatLine();
        promise9FlowLine();
        promise10FlowAnewLine();
        promise11IslandNode();
        promise12PriceNode();
    }

    private static void promise2LineOne() {
        C.numbers(Grids::empty, 7, (g, v) -> g.line(v, v == 0 ? 7 : 0, 1, 1));
    }

    private static void promise2LineOther() {
        C.numbers(Grids::empty, 7, (g, v) -> g.line(v == 7 ? 0 : 7, v, 1, 1));
    }

    private static void promise2LineLength() {
        C.values(Grids::empty, 1, 9, (g, v) -> g.line(0, 1, v, 1));
    }

    private static void promise2LineLimit() {
        C.values(Grids::empty, 1, 99, (g, v) -> g.line(0, 1, 1, v));
    }

    private static void promise3SwitchLineLine() {
        C.numbers(Grids::two, 1, (g, v) -> g.switchLine(v, false));
        C.numbers(Grids::two, 1, (g, v) -> g.switchLine(v, true));
    }

    private static void promise4StormLine() {
        C.numbers(Grids::two, 1, (g, v) -> g.storm(v));
    }

    private static CopperDispatch dead() {
        CopperDispatch g = Grids.two();
        g.switchLine(0, false);
        return g;
    }

    private static void promise5PermitCrew() {
        C.numbers(BoundsTest::dead, 1, (g, v) -> g.permit(v, 0, 1));
    }

    private static void promise5PermitLine() {
        C.numbers(BoundsTest::dead, 1, (g, v) -> g.permit(0, v, 1));
    }

    private static void promise5PermitMinutes() {
        C.values(BoundsTest::dead, 1, 60, (g, v) -> g.permit(0, 0, v));
    }

    private static CopperDispatch worked() {
        CopperDispatch g = dead();
        g.permit(0, 0, 1);
        g.permit(1, 1, 1);
        g.pass(1);
        return g;
    }

    private static void promise6GiveBackCrew() {
        C.numbers(BoundsTest::worked, 1, (g, v) -> g.giveBack(v));
    }

    private static void promise7StateOfLine() {
        C.numbers(Grids::two, 1, (g, v) -> g.stateOf(v));
    }

    private static void promise8HeatLine() {
        C.numbers(Grids::two, 1, (g, v) -> g.heat(v));
    }

    private static void promise9FlowLine() {
        C.numbers(Grids::two, 1, (g, v) -> g.flow(v));
    }

    private static void promise10FlowAnewLine() {
        C.numbers(Grids::two, 1, (g, v) -> g.flowAnew(v));
    }

    private static void promise11IslandNode() {
        C.numbers(Grids::empty, 7, (g, v) -> g.island(v));
    }

    private static void promise12PriceNode() {
        C.numbers(Grids::two, 7, (g, v) -> g.price(v));
    }

    private static void plants() {
        promise13PlantNode();
        promise13PlantLeast();
        promise13PlantMost();
        promise13PlantStart();
        promise14StartPlant();
        promise15StopPlant();
        promise16PlantStatePlant();
        promise17BasePlant();
    }

    private static void promise13PlantNode() {
        C.numbers(Grids::empty, 7, (g, v) -> g.plant(v, 0, 1, 0, false));
    }

    private static void promise13PlantLeast() {
        C.values(Grids::empty, 0, 50, (g, v) -> g.plant(0, v, 99, 0, false));
        C.values(Grids::empty, 0, 30, (g, v) -> g.plant(0, v, 30, 0, false));
    }

    /** From its least load on, but 1 at the least. */
    private static void promise13PlantMost() {
        C.values(Grids::empty, 1, 99, (g, v) -> g.plant(0, 0, v, 0, false));
        C.values(Grids::empty, 1, 99, (g, v) -> g.plant(0, 1, v, 0, false));
        C.values(Grids::empty, 2, 99, (g, v) -> g.plant(0, 2, v, 0, false));
        C.values(Grids::empty, 50, 99, (g, v) -> g.plant(0, 50, v, 0, false));
    }

    private static void promise13PlantStart() {
        C.values(Grids::empty, 0, 30, (g, v) -> g.plant(0, 0, 1, v, true));
    }

    private static void promise14StartPlant() {
        C.numbers(Grids::two, 1, (g, v) -> g.start(v));
    }

    private static void promise15StopPlant() {
        C.numbers(Grids::two, 1, (g, v) -> g.stop(v));
    }

    private static void promise16PlantStatePlant() {
        C.numbers(Grids::two, 1, (g, v) -> g.plantState(v));
    }

    private static void promise17BasePlant() {
        C.numbers(Grids::two, 1, (g, v) -> g.base(v));
    }

    private static void marketAndReserves() {
        promise18OfferPlant();
        promise18OfferPrice();
        promise18OfferAmount();
        promise19WithdrawPlant();
        promise20ClearDemand();
        promise22ScheduledPlant();
        promise23ReservePlant();
        promise23ReserveOf();
        promise23ReserveAmount();
        promise23ReservePrice();
        promise24LeftPlant();
        promise24LeftOf();
    }

    private static CopperDispatch greatPlant() {
        CopperDispatch g = new CopperDispatch();
        g.plant(0, 0, 99, 0, true);
        return g;
    }

    private static void promise18OfferPlant() {
        C.numbers(Grids::two, 1, (g, v) -> g.offer(v, 4, 1));
    }

    private static void promise18OfferPrice() {
        C.values(BoundsTest::greatPlant, 0, 999, (g, v) -> g.offer(0, v, 1));
    }

    private static void promise18OfferAmount() {
        C.values(BoundsTest::greatPlant, 1, 99, (g, v) -> g.offer(0, 0, v));
    }

    private static void promise19WithdrawPlant() {
        C.numbers(Grids::two, 1, (g, v) -> g.withdraw(v));
    }

    private static void promise20ClearDemand() {
        C.values(Grids::empty, 0, 999, (g, v) -> g.clear(v));
    }

    private static void promise22ScheduledPlant() {
        C.numbers(Grids::two, 1, (g, v) -> g.scheduled(v));
    }

    private static void promise23ReservePlant() {
        C.numbers(Grids::two, 1, (g, v) -> g.reserve(v, 0, 1, 0));
    }

    private static void promise23ReserveOf() {
        C.values(Grids::two, 0, 1, (g, v) -> g.reserve(0, v, 1, 0));
    }

    private static void promise23ReserveAmount() {
        C.values(BoundsTest::greatPlant, 1, 99, (g, v) -> g.reserve(0, 1, v, 0));
    }

    private static void promise23ReservePrice() {
        C.values(BoundsTest::greatPlant, 0, 999, (g, v) -> g.reserve(0, 1, 1, v));
    }

    private static void promise24LeftPlant() {
        C.numbers(Grids::two, 1, (g, v) -> g.left(v, 1));
    }

    private static void promise24LeftOf() {
        C.values(Grids::two, 0, 1, (g, v) -> g.left(1, v));
    }

    private static void feedersWheelsStores() {
        promise25FeederNode();
        promise25FeederDemand();
        promise26SetDemandFeeder();
        promise26SetDemandDemand();
        promise27IsShedFeeder();
        promise28WheelNode();
        promise29WindWheel();
        promise29WindAmount();
        promise30StoreNode();
        promise30StoreRoom();
        promise30StoreRate();
        promise30StoreLoss();
        promise31LevelStore();
        promise32AmountWhat();
        promise32AmountWhich();
    }

    private static void promise25FeederNode() {
        C.numbers(Grids::empty, 7, (g, v) -> g.feeder(v, 1));
    }

    private static void promise25FeederDemand() {
        C.values(Grids::empty, 0, 60, (g, v) -> g.feeder(0, v));
    }

    private static void promise26SetDemandFeeder() {
        C.numbers(Grids::two, 1, (g, v) -> g.setDemand(v, 1));
    }

    private static void promise26SetDemandDemand() {
        C.values(Grids::two, 0, 60, (g, v) -> g.setDemand(0, v));
    }

    private static void promise27IsShedFeeder() {
        C.numbers(Grids::two, 1, (g, v) -> g.isShed(v));
    }

    private static void promise28WheelNode() {
        C.numbers(Grids::empty, 7, (g, v) -> g.wheel(v));
    }

    private static void promise29WindWheel() {
        C.numbers(Grids::two, 1, (g, v) -> g.wind(v, true, 1));
        C.numbers(Grids::two, 1, (g, v) -> g.wind(v, false, 1));
    }

    private static void promise29WindAmount() {
        C.values(Grids::two, 0, 60, (g, v) -> g.wind(1, true, v));
        C.values(Grids::two, 0, 60, (g, v) -> g.wind(1, false, v));
    }

    private static void promise30StoreNode() {
        C.numbers(Grids::empty, 7, (g, v) -> g.store(v, 1, 1, 0));
    }

    private static void promise30StoreRoom() {
        C.values(Grids::empty, 1, 999, (g, v) -> g.store(0, v, 1, 0));
    }

    private static void promise30StoreRate() {
        C.values(Grids::empty, 1, 50, (g, v) -> g.store(0, 1, v, 0));
    }

    private static void promise30StoreLoss() {
        C.values(Grids::empty, 0, 50, (g, v) -> g.store(0, 1, 1, v));
    }

    private static void promise31LevelStore() {
        C.numbers(Grids::two, 1, (g, v) -> g.level(v));
    }

    private static void promise32AmountWhat() {
        C.values(Grids::two, 0, 3, (g, v) -> g.amount(v, 1));
    }

    private static void promise32AmountWhich() {
        for (int what = 0; what < 4; what++) {
            int kind = what;
            C.numbers(Grids::two, 1, (g, v) -> g.amount(kind, v));
        }
    }

    private static void minutesAndBills() {
        promise33PassMinutes();
        promise35BreakMeterFeeder();
        promise36ReadingFeeder();
        promise36ReadingHour();
        promise37CorrectFeeder();
        promise37CorrectHour();
        promise37CorrectReading();
        promise38BillWhat();
        promise38BillWhich();
        promise38BillHour();
        promise39OpenHour();
    }

    private static void promise33PassMinutes() {
        C.values(Grids::empty, 1, 100, (g, v) -> g.pass(v));
    }

    private static void promise35BreakMeterFeeder() {
        C.numbers(Grids::two, 1, (g, v) -> g.breakMeter(v, false));
    }

    private static void promise36ReadingFeeder() {
        C.numbers(Grids::two, 1, (g, v) -> g.reading(v, 0));
    }

    private static void promise36ReadingHour() {
        C.numbers(Grids::two, 1, (g, v) -> g.reading(1, v));
    }

    private static CopperDispatch bothGaps() {
        CopperDispatch g = Grids.one(99, 10);
        g.feeder(0, 10);
        g.breakMeter(0, true);
        g.breakMeter(1, true);
        g.pass(1);
        g.clear(99);
        g.pass(19);
        return g;
    }

    private static void promise37CorrectFeeder() {
        C.numbers(BoundsTest::bothGaps, 1, (g, v) -> g.correct(v, 0, 5));
    }

    private static void promise37CorrectHour() {
        C.numbers(BoundsTest::bothGaps, 1, (g, v) -> g.correct(1, v, 5));
    }

    private static void promise37CorrectReading() {
        C.values(BoundsTest::bothGaps, 0, 600, (g, v) -> g.correct(1, 0, v));
    }

    private static void promise38BillWhat() {
        C.values(Grids::two, 0, 3, (g, v) -> g.bill(v, 1, 1));
    }

    private static void promise38BillWhich() {
        for (int what = 0; what < 4; what++) {
            int kind = what;
            C.numbers(Grids::two, 1, (g, v) -> g.bill(kind, v, 1));
        }
    }

    private static void promise38BillHour() {
        for (int what = 0; what < 4; what++) {
            int kind = what;
            C.numbers(Grids::two, 1, (g, v) -> g.bill(kind, 0, v));
        }
    }

    private static void promise39OpenHour() {
        C.numbers(Grids::two, 1, (g, v) -> g.open(v));
    }

    /** The greatest numbers that there can be at all. */
    private static void lastNumbersOfAFullGrid() {
        C.numbers(Grids::full, 11, (g, v) -> g.stateOf(v));
        C.numbers(Grids::full, 11, (g, v) -> g.switchLine(v, false));
        C.numbers(Grids::full, 11, (g, v) -> g.storm(v));
        C.numbers(Grids::full, 11, (g, v) -> g.flowAnew(v));
        C.numbers(Grids::full, 7, (g, v) -> g.start(v));
        C.numbers(Grids::full, 7, (g, v) -> g.offer(v, 1, 1));
        C.numbers(Grids::full, 7, (g, v) -> g.reserve(v, 1, 1, 1));
        C.numbers(Grids::full, 9, (g, v) -> g.setDemand(v, 1));
        C.numbers(Grids::full, 9, (g, v) -> g.isShed(v));
        C.numbers(Grids::full, 3, (g, v) -> g.wind(v, true, 1));
        C.numbers(Grids::full, 2, (g, v) -> g.level(v));
        int[] last = {9, 7, 3, 2};
        for (int what = 0; what < 4; what++) {
            int kind = what;
            C.numbers(Grids::full, last[what], (g, v) -> g.amount(kind, v));
        }
        C.numbers(BoundsTest::longPast, 39, (g, v) -> g.open(v));
        C.numbers(BoundsTest::longPast, 39, (g, v) -> g.reading(9, v));
        C.numbers(BoundsTest::longPast, 39, (g, v) -> g.bill(CopperDispatch.STORE, 2, v));
    }

    private static CopperDispatch longPast() {
        CopperDispatch g = Grids.full();
        for (int k = 0; k < 4; k++) {
            g.pass(100);
        }
        return g;
    }
}
