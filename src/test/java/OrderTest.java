/** "The first line of a method's throws clause that applies decides": each pair of lines that can apply at once. */
public final class OrderTest {
    private static final Check C = new Check();
    private static final int MIN = Integer.MIN_VALUE;
    private static final int MAX = Integer.MAX_VALUE;

    private OrderTest() { }

    public static void main(String[] args) {
        promise2LineNodeAheadOfRanges();
        promise2LineNodeAheadOfFull();
        promise2LineRangesAheadOfFull();
        promise3SwitchLineAheadOfDamage();
        promise5PermitNumbersAheadOfMinutes();
        promise5PermitNumbersAheadOfState();
        promise5PermitMinutesAheadOfState();
        promise6GiveBackCrewAheadOfState();
        promise13PlantNodeAheadOfRanges();
        promise13PlantNodeAheadOfFull();
        promise13PlantRangesAheadOfFull();
        promise14StartPlantAheadOfState();
        promise18OfferPlantAheadOfRanges();
        promise18OfferPlantAheadOfState();
        promise18OfferRangesAheadOfState();
        promise23ReservePlantAheadOfRanges();
        promise23ReservePlantAheadOfState();
        promise23ReserveRangesAheadOfState();
        promise24LeftPlantAheadOfClass();
        promise25FeederNodeAheadOfDemand();
        promise25FeederNodeAheadOfFull();
        promise25FeederDemandAheadOfFull();
        promise26SetDemandFeederAheadOfDemand();
        promise28WheelNodeAheadOfFull();
        promise29WindWheelAheadOfAmount();
        promise30StoreNodeAheadOfRanges();
        promise30StoreNodeAheadOfFull();
        promise30StoreRangesAheadOfFull();
        promise32AmountNumberOrWhat();
        promise33PassMinutesAheadOfState();
        promise37CorrectNumbersAheadOfReading();
        promise37CorrectNumbersAheadOfState();
        promise37CorrectReadingAheadOfState();
        promise38BillHourAheadOfWhat();
        C.end();
    }

    private static void promise2LineNodeAheadOfRanges() {
        CopperDispatch g = new CopperDispatch();
        C.noSuch(() -> g.line(-1, -1, 1, 1));
        C.noSuch(() -> g.line(8, 8, 1, 1));
        C.noSuch(() -> g.line(-1, 0, 0, 1));
        C.noSuch(() -> g.line(8, 0, 10, 1));
        C.noSuch(() -> g.line(0, -1, 1, 0));
        C.noSuch(() -> g.line(0, 8, 1, 100));
        C.noSuch(() -> g.line(MIN, MAX, MIN, MAX));
    }

    private static void promise2LineNodeAheadOfFull() {
        CopperDispatch g = Grids.full();
        C.noSuch(() -> g.line(-1, 0, 1, 1));
        C.noSuch(() -> g.line(0, 8, 1, 1));
        C.noSuch(() -> g.line(8, 8, 0, 0));
    }

    private static void promise2LineRangesAheadOfFull() {
        CopperDispatch g = Grids.full();
        C.badArgument(() -> g.line(0, 0, 1, 1));
        C.badArgument(() -> g.line(0, 1, 0, 1));
        C.badArgument(() -> g.line(0, 1, 10, 1));
        C.badArgument(() -> g.line(0, 1, 1, 0));
        C.badArgument(() -> g.line(0, 1, 1, 100));
        C.badState(() -> g.line(0, 1, 1, 1));
    }

    /** A line that is not there is not damaged; with a damaged one beside it. */
    private static void promise3SwitchLineAheadOfDamage() {
        CopperDispatch g = new CopperDispatch();
        C.noSuch(() -> g.switchLine(0, true));
        g.line(0, 1, 1, 1);
        g.storm(0);
        C.noSuch(() -> g.switchLine(1, true));
        C.noSuch(() -> g.switchLine(-1, true));
        C.badState(() -> g.switchLine(0, true));
    }

    private static void promise5PermitNumbersAheadOfMinutes() {
        CopperDispatch g = Grids.two();
        C.noSuch(() -> g.permit(-1, 1, 0));
        C.noSuch(() -> g.permit(2, 1, 61));
        C.noSuch(() -> g.permit(0, -1, 0));
        C.noSuch(() -> g.permit(0, 2, 61));
        C.noSuch(() -> g.permit(2, 2, MIN));
    }

    private static void promise5PermitNumbersAheadOfState() {
        CopperDispatch g = Grids.two();
        g.permit(0, 1, 5);
        C.noSuch(() -> g.permit(0, 2, 1));
        C.noSuch(() -> g.permit(2, 0, 1));
        C.noSuch(() -> g.permit(2, 1, 1));
        C.noSuch(() -> g.permit(-1, 1, 1));
    }

    private static void promise5PermitMinutesAheadOfState() {
        CopperDispatch g = Grids.two();
        // Line 0 is IN.
        C.badArgument(() -> g.permit(0, 0, 0));
        C.badArgument(() -> g.permit(0, 0, 61));
        g.permit(0, 1, 5);
        C.badArgument(() -> g.permit(0, 1, 61));
        C.badArgument(() -> g.permit(1, 1, 0));
        C.badState(() -> g.permit(1, 1, 1));
    }

    private static void promise6GiveBackCrewAheadOfState() {
        CopperDispatch g = Grids.two();
        C.noSuch(() -> g.giveBack(2));
        C.noSuch(() -> g.giveBack(-1));
        C.badState(() -> g.giveBack(1));
    }

    private static void promise13PlantNodeAheadOfRanges() {
        CopperDispatch g = new CopperDispatch();
        C.noSuch(() -> g.plant(8, -1, 1, 0, true));
        C.noSuch(() -> g.plant(-1, 51, 99, 0, true));
        C.noSuch(() -> g.plant(8, 2, 1, 0, true));
        C.noSuch(() -> g.plant(8, 0, 100, 0, true));
        C.noSuch(() -> g.plant(-1, 0, 1, 31, true));
    }

    private static void promise13PlantNodeAheadOfFull() {
        CopperDispatch g = Grids.full();
        C.noSuch(() -> g.plant(8, 0, 1, 0, true));
        C.noSuch(() -> g.plant(-1, 0, 0, 31, true));
    }

    private static void promise13PlantRangesAheadOfFull() {
        CopperDispatch g = Grids.full();
        C.badArgument(() -> g.plant(0, -1, 1, 0, true));
        C.badArgument(() -> g.plant(0, 51, 99, 0, true));
        C.badArgument(() -> g.plant(0, 2, 1, 0, true));
        C.badArgument(() -> g.plant(0, 0, 0, 0, true));
        C.badArgument(() -> g.plant(0, 0, 100, 0, true));
        C.badArgument(() -> g.plant(0, 0, 1, -1, true));
        C.badArgument(() -> g.plant(0, 0, 1, 31, true));
        C.badState(() -> g.plant(0, 0, 1, 0, true));
    }

    private static void promise14StartPlantAheadOfState() {
        CopperDispatch g = new CopperDispatch();
        C.noSuch(() -> g.start(0));
        g.plant(0, 0, 1, 0, false);
        C.noSuch(() -> g.start(1));
        C.badState(() -> g.start(0));
    }

    private static CopperDispatch threeSteps() {
        CopperDispatch g = new CopperDispatch();
        g.plant(0, 0, 3, 0, true);
        g.offer(0, 5, 1);
        g.offer(0, 5, 1);
        g.offer(0, 5, 1);
        return g;
    }

    private static void promise18OfferPlantAheadOfRanges() {
        CopperDispatch g = threeSteps();
        C.noSuch(() -> g.offer(1, -1, 1));
        C.noSuch(() -> g.offer(-1, 1000, 1));
        C.noSuch(() -> g.offer(1, 5, 0));
        C.noSuch(() -> g.offer(-1, 5, 100));
    }

    private static void promise18OfferPlantAheadOfState() {
        CopperDispatch g = threeSteps();
        C.noSuch(() -> g.offer(1, 4, 1));
        C.noSuch(() -> g.offer(-1, 5, 99));
    }

    private static void promise18OfferRangesAheadOfState() {
        CopperDispatch g = threeSteps();
        C.badArgument(() -> g.offer(0, -1, 1));
        C.badArgument(() -> g.offer(0, 1000, 1));
        C.badArgument(() -> g.offer(0, 5, 0));
        C.badArgument(() -> g.offer(0, 5, 100));
        C.badState(() -> g.offer(0, 5, 1));
    }

    private static CopperDispatch soldOut() {
        CopperDispatch g = new CopperDispatch();
        g.plant(0, 0, 9, 0, true);
        g.reserve(0, 0, 9, 5);
        return g;
    }

    private static void promise23ReservePlantAheadOfRanges() {
        CopperDispatch g = soldOut();
        C.noSuch(() -> g.reserve(1, 2, 1, 5));
        C.noSuch(() -> g.reserve(-1, -1, 1, 5));
        C.noSuch(() -> g.reserve(1, 0, 0, 5));
        C.noSuch(() -> g.reserve(1, 0, 100, 5));
        C.noSuch(() -> g.reserve(-1, 0, 1, -1));
        C.noSuch(() -> g.reserve(-1, 0, 1, 1000));
    }

    private static void promise23ReservePlantAheadOfState() {
        CopperDispatch g = soldOut();
        C.noSuch(() -> g.reserve(1, 0, 99, 5));
        C.noSuch(() -> g.reserve(-1, 0, 1, 5));
    }

    private static void promise23ReserveRangesAheadOfState() {
        CopperDispatch g = soldOut();
        C.badArgument(() -> g.reserve(0, 2, 1, 5));
        C.badArgument(() -> g.reserve(0, -1, 1, 5));
        C.badArgument(() -> g.reserve(0, 0, 0, 5));
        C.badArgument(() -> g.reserve(0, 0, 100, 5));
        C.badArgument(() -> g.reserve(0, 0, 1, -1));
        C.badArgument(() -> g.reserve(0, 0, 1, 1000));
        C.badState(() -> g.reserve(0, 0, 1, 5));
    }

    private static void promise24LeftPlantAheadOfClass() {
        CopperDispatch g = soldOut();
        C.noSuch(() -> g.left(1, 2));
        C.noSuch(() -> g.left(-1, -1));
        C.badArgument(() -> g.left(0, 2));
    }

    private static void promise25FeederNodeAheadOfDemand() {
        CopperDispatch g = new CopperDispatch();
        C.noSuch(() -> g.feeder(8, 61));
        C.noSuch(() -> g.feeder(-1, -1));
    }

    private static void promise25FeederNodeAheadOfFull() {
        CopperDispatch g = Grids.full();
        C.noSuch(() -> g.feeder(8, 1));
        C.noSuch(() -> g.feeder(-1, 61));
    }

    private static void promise25FeederDemandAheadOfFull() {
        CopperDispatch g = Grids.full();
        C.badArgument(() -> g.feeder(0, 61));
        C.badArgument(() -> g.feeder(0, -1));
        C.badState(() -> g.feeder(0, 1));
    }

    private static void promise26SetDemandFeederAheadOfDemand() {
        CopperDispatch g = Grids.two();
        C.noSuch(() -> g.setDemand(2, 61));
        C.noSuch(() -> g.setDemand(-1, -1));
        C.badArgument(() -> g.setDemand(1, 61));
    }

    private static void promise28WheelNodeAheadOfFull() {
        CopperDispatch g = Grids.full();
        C.noSuch(() -> g.wheel(8));
        C.noSuch(() -> g.wheel(-1));
        C.badState(() -> g.wheel(7));
    }

    private static void promise29WindWheelAheadOfAmount() {
        CopperDispatch g = Grids.two();
        C.noSuch(() -> g.wind(2, true, 61));
        C.noSuch(() -> g.wind(-1, false, -1));
        C.badArgument(() -> g.wind(1, false, -1));
    }

    private static void promise30StoreNodeAheadOfRanges() {
        CopperDispatch g = new CopperDispatch();
        C.noSuch(() -> g.store(8, 0, 1, 0));
        C.noSuch(() -> g.store(-1, 1000, 1, 0));
        C.noSuch(() -> g.store(8, 1, 0, 0));
        C.noSuch(() -> g.store(-1, 1, 51, 0));
        C.noSuch(() -> g.store(8, 1, 1, 51));
    }

    private static void promise30StoreNodeAheadOfFull() {
        CopperDispatch g = Grids.full();
        C.noSuch(() -> g.store(8, 1, 1, 0));
        C.noSuch(() -> g.store(-1, 1, 51, 0));
    }

    private static void promise30StoreRangesAheadOfFull() {
        CopperDispatch g = Grids.full();
        C.badArgument(() -> g.store(0, 0, 1, 0));
        C.badArgument(() -> g.store(0, 1000, 1, 0));
        C.badArgument(() -> g.store(0, 1, 0, 0));
        C.badArgument(() -> g.store(0, 1, 51, 0));
        C.badArgument(() -> g.store(0, 1, 1, -1));
        C.badArgument(() -> g.store(0, 1, 1, 51));
        C.badState(() -> g.store(0, 1, 1, 0));
    }

    /** Of a kind that there is, the number decides; there is nothing that could decide it of one that there is not. */
    private static void promise32AmountNumberOrWhat() {
        CopperDispatch g = Grids.two();
        for (int what = 0; what < 4; what++) {
            int kind = what;
            C.noSuch(() -> g.amount(kind, 2));
            C.noSuch(() -> g.amount(kind, -1));
        }
        C.badArgument(() -> g.amount(4, 0));
        C.badArgument(() -> g.amount(-1, 1));
    }

    private static void promise33PassMinutesAheadOfState() {
        CopperDispatch g = new CopperDispatch();
        for (int k = 0; k < 4; k++) {
            g.pass(100);
        }
        C.badArgument(() -> g.pass(0));
        C.badArgument(() -> g.pass(101));
        C.badArgument(() -> g.pass(MAX));
        C.badArgument(() -> g.pass(MIN));
        C.badState(() -> g.pass(1));
        C.badState(() -> g.pass(100));
    }

    private static void promise37CorrectNumbersAheadOfReading() {
        CopperDispatch g = Grids.two();
        C.noSuch(() -> g.correct(2, 0, 601));
        C.noSuch(() -> g.correct(-1, 0, -1));
        C.noSuch(() -> g.correct(0, 2, 601));
        C.noSuch(() -> g.correct(0, -1, -1));
    }

    private static void promise37CorrectNumbersAheadOfState() {
        CopperDispatch g = Grids.two();
        // Hour 1 is not over; hour 2 has not begun.
        C.noSuch(() -> g.correct(2, 1, 5));
        C.noSuch(() -> g.correct(0, 2, 5));
        C.noSuch(() -> g.correct(0, -1, 5));
        C.badState(() -> g.correct(0, 1, 5));
    }

    private static void promise37CorrectReadingAheadOfState() {
        CopperDispatch g = Grids.two();
        C.badArgument(() -> g.correct(0, 1, -1));
        C.badArgument(() -> g.correct(0, 1, 601));
        g.correct(0, 0, 5);
        C.badArgument(() -> g.correct(0, 0, -1));
        C.badArgument(() -> g.correct(0, 0, 601));
        C.badState(() -> g.correct(0, 0, 5));
    }

    private static void promise38BillHourAheadOfWhat() {
        CopperDispatch g = Grids.two();
        C.noSuch(() -> g.bill(4, 0, 2));
        C.noSuch(() -> g.bill(-1, 0, -1));
        C.badArgument(() -> g.bill(4, 0, 1));
        C.badArgument(() -> g.bill(-1, 0, 0));
        for (int what = 0; what < 4; what++) {
            int kind = what;
            C.noSuch(() -> g.bill(kind, 2, 0));
            C.noSuch(() -> g.bill(kind, -1, 0));
            C.noSuch(() -> g.bill(kind, 0, 2));
        }
    }
}
