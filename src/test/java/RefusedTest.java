import java.util.HashMap;
import java.util.Map;

/**
 * "A call that throws changes nothing": each way in which each method refuses, on a grid where much goes on. The grid
 * must look the same behind the call, and go on as one does that was not asked.
 */
public final class RefusedTest {
    private static final Check C = new Check();
    private static final Class<?> NO_SUCH = IndexOutOfBoundsException.class;
    private static final Class<?> BAD_ARGUMENT = IllegalArgumentException.class;
    private static final Class<?> BAD_STATE = IllegalStateException.class;
    private static final Map<String, String> FUTURES = new HashMap<>();

    private interface Refused {
        Object on(CopperDispatch g);
    }

    private RefusedTest() { }

    public static void main(String[] args) {
        promise2Line();
        promise3SwitchLine();
        promise4Storm();
        promise5Permit();
        promise6GiveBack();
        promises7To12Questions();
        promise13Plant();
        promise14Start();
        promise15Stop();
        promises16And17Questions();
        promise18Offer();
        promise19Withdraw();
        promise20Clear();
        promise22Scheduled();
        promise23Reserve();
        promise24Left();
        promise25Feeder();
        promise26SetDemand();
        promise27IsShed();
        promise28Wheel();
        promise29Wind();
        promise30Store();
        promises31And32Questions();
        promise33Pass();
        promise35BreakMeter();
        promise36Reading();
        promise37Correct();
        promises38And39Questions();
        C.end();
    }

    private static void busy(Class<?> due, Refused call) {
        keeps("busy", RefusedTest::busyGrid, due, call);
    }

    private static void full(Class<?> due, Refused call) {
        keeps("full", Grids::full, due, call);
    }

    private static void keeps(String name, Check.Maker maker, Class<?> due, Refused call) {
        String future = FUTURES.computeIfAbsent(name, key -> Picture.ofFuture(maker.make()));
        CopperDispatch g = maker.make();
        String before = Picture.of(g);
        C.due(due, () -> call.on(g));
        C.due("as before", () -> Picture.of(g).equals(before) ? "as before" : "changed");
        C.due("as without", () -> Picture.ofFuture(g).equals(future) ? "as without" : "goes on otherwise");
    }

    /**
     * Minute 23. Line 0 is IN and warm; 1 DEAD, with a permit of crew 0, which works; 2 TRIPPED and damaged; 3 DEAD;
     * 4 DEAD and damaged. Plant 0 is ON, with 3 steps, reserves of this hour and of the hour to come; 1 is STARTING;
     * 2 OFF, in the dark. Feeder 1 is shed; 2 has gaps in hours 0 and 1, the first one corrected.
     */
    private static CopperDispatch busyGrid() {
        CopperDispatch g = new CopperDispatch();
        g.line(0, 1, 1, 40);
        g.line(1, 2, 2, 30);
        g.line(2, 3, 1, 20);
        g.line(3, 0, 4, 60);
        g.line(4, 5, 1, 60);
        g.plant(0, 5, 60, 0, true);
        g.plant(1, 0, 30, 12, true);
        g.plant(4, 0, 30, 2, false);
        g.offer(0, 10, 20);
        g.offer(0, 20, 20);
        g.offer(0, 30, 10);
        g.feeder(1, 25);
        g.feeder(0, 40);
        g.feeder(0, 6);
        g.wheel(1);
        g.wind(0, true, 3);
        g.wind(0, false, 5);
        g.store(0, 50, 6, 20);
        g.breakMeter(2, true);
        g.start(0);
        g.clear(45);
        g.pass(10);
        g.clear(45);
        g.pass(10);
        g.correct(2, 0, 70);
        g.clear(40);
        g.reserve(0, 0, 2, 50);
        g.reserve(0, 1, 3, 40);
        g.switchLine(1, false);
        g.switchLine(3, false);
        g.switchLine(4, false);
        g.storm(2);
        g.storm(4);
        g.permit(0, 1, 20);
        g.start(1);
        g.pass(3);
        g.clear(30);
        g.reserve(0, 1, 4, 60);
        g.reserve(0, 1, 5, 70);
        return g;
    }

    private static void promise2Line() {
        busy(NO_SUCH, g -> g.line(8, 0, 1, 1));
        busy(NO_SUCH, g -> g.line(0, -1, 1, 1));
        busy(BAD_ARGUMENT, g -> g.line(2, 2, 1, 1));
        busy(BAD_ARGUMENT, g -> g.line(1, 2, 0, 1));
        busy(BAD_ARGUMENT, g -> g.line(1, 2, 10, 1));
        busy(BAD_ARGUMENT, g -> g.line(1, 2, 1, 0));
        busy(BAD_ARGUMENT, g -> g.line(1, 2, 1, 100));
        full(BAD_STATE, g -> g.line(0, 7, 1, 1));
    }

    private static void promise3SwitchLine() {
        busy(NO_SUCH, g -> g.switchLine(5, true));
        busy(NO_SUCH, g -> g.switchLine(-1, false));
        // Of a permit, damaged and TRIPPED, damaged and DEAD.
        busy(BAD_STATE, g -> g.switchLine(1, true));
        busy(BAD_STATE, g -> g.switchLine(2, true));
        busy(BAD_STATE, g -> g.switchLine(4, true));
    }

    private static void promise4Storm() {
        busy(NO_SUCH, g -> g.storm(5));
        busy(NO_SUCH, g -> g.storm(-1));
        full(NO_SUCH, g -> g.storm(12));
    }

    private static void promise5Permit() {
        busy(NO_SUCH, g -> g.permit(2, 3, 5));
        busy(NO_SUCH, g -> g.permit(-1, 3, 5));
        busy(NO_SUCH, g -> g.permit(1, 5, 5));
        busy(NO_SUCH, g -> g.permit(1, -1, 5));
        busy(BAD_ARGUMENT, g -> g.permit(1, 3, 0));
        busy(BAD_ARGUMENT, g -> g.permit(1, 3, 61));
        // The crew has one; the line is IN, TRIPPED, or has one on it.
        busy(BAD_STATE, g -> g.permit(0, 3, 5));
        busy(BAD_STATE, g -> g.permit(1, 0, 5));
        busy(BAD_STATE, g -> g.permit(1, 2, 5));
        busy(BAD_STATE, g -> g.permit(1, 1, 5));
        busy(BAD_STATE, g -> g.permit(0, 1, 5));
    }

    private static void promise6GiveBack() {
        busy(NO_SUCH, g -> g.giveBack(2));
        busy(NO_SUCH, g -> g.giveBack(-1));
        busy(BAD_STATE, g -> g.giveBack(0));
        busy(BAD_STATE, g -> g.giveBack(1));
    }

    private static void promises7To12Questions() {
        busy(NO_SUCH, g -> g.stateOf(5));
        busy(NO_SUCH, g -> g.heat(5));
        busy(NO_SUCH, g -> g.flow(5));
        busy(NO_SUCH, g -> g.flowAnew(5));
        busy(NO_SUCH, g -> g.island(8));
        busy(NO_SUCH, g -> g.price(8));
    }

    private static void promise13Plant() {
        busy(NO_SUCH, g -> g.plant(8, 0, 1, 0, true));
        busy(BAD_ARGUMENT, g -> g.plant(0, 51, 99, 0, true));
        busy(BAD_ARGUMENT, g -> g.plant(0, 5, 4, 0, true));
        busy(BAD_ARGUMENT, g -> g.plant(0, 0, 0, 0, true));
        busy(BAD_ARGUMENT, g -> g.plant(0, 0, 100, 0, true));
        busy(BAD_ARGUMENT, g -> g.plant(0, 0, 1, 31, true));
        full(BAD_STATE, g -> g.plant(0, 0, 99, 0, true));
    }

    private static void promise14Start() {
        busy(NO_SUCH, g -> g.start(3));
        busy(NO_SUCH, g -> g.start(-1));
        // ON; STARTING; OFF, not black, in the dark.
        busy(BAD_STATE, g -> g.start(0));
        busy(BAD_STATE, g -> g.start(1));
        busy(BAD_STATE, g -> g.start(2));
    }

    private static void promise15Stop() {
        busy(NO_SUCH, g -> g.stop(3));
        busy(NO_SUCH, g -> g.stop(-1));
    }

    private static void promises16And17Questions() {
        busy(NO_SUCH, g -> g.plantState(3));
        busy(NO_SUCH, g -> g.base(3));
    }

    private static void promise18Offer() {
        busy(NO_SUCH, g -> g.offer(3, 50, 1));
        busy(BAD_ARGUMENT, g -> g.offer(1, -1, 1));
        busy(BAD_ARGUMENT, g -> g.offer(1, 1000, 1));
        busy(BAD_ARGUMENT, g -> g.offer(1, 50, 0));
        busy(BAD_ARGUMENT, g -> g.offer(1, 50, 100));
        // 3 steps; more than 30; a price below that of the last step.
        busy(BAD_STATE, g -> g.offer(0, 50, 1));
        busy(BAD_STATE, g -> g.offer(1, 50, 31));
        keeps("step", RefusedTest::oneStep, BAD_STATE, g -> g.offer(0, 49, 1));
        keeps("step", RefusedTest::oneStep, BAD_STATE, g -> g.offer(0, 50, 21));
    }

    private static CopperDispatch oneStep() {
        CopperDispatch g = new CopperDispatch();
        g.plant(0, 0, 30, 0, true);
        g.offer(0, 50, 10);
        g.feeder(0, 5);
        g.start(0);
        g.clear(5);
        return g;
    }

    private static void promise19Withdraw() {
        busy(NO_SUCH, g -> g.withdraw(3));
        busy(NO_SUCH, g -> g.withdraw(-1));
    }

    /** What was scheduled, what was missing, and what was sold stay. */
    private static void promise20Clear() {
        busy(BAD_ARGUMENT, g -> g.clear(-1));
        busy(BAD_ARGUMENT, g -> g.clear(1000));
    }

    private static void promise22Scheduled() {
        busy(NO_SUCH, g -> g.scheduled(3));
    }

    /** Also the price of what was sold of that class stays. */
    private static void promise23Reserve() {
        busy(NO_SUCH, g -> g.reserve(3, 0, 1, 999));
        busy(BAD_ARGUMENT, g -> g.reserve(0, 2, 1, 999));
        busy(BAD_ARGUMENT, g -> g.reserve(0, 1, 0, 999));
        busy(BAD_ARGUMENT, g -> g.reserve(0, 1, 100, 999));
        busy(BAD_ARGUMENT, g -> g.reserve(0, 1, 1, 1000));
        busy(BAD_STATE, g -> g.reserve(0, 1, 90, 999));
        busy(BAD_STATE, g -> g.reserve(0, 0, 90, 999));
        keeps("sold", RefusedTest::soldFor9, BAD_STATE, g -> g.reserve(0, 1, 1, 999));
        CopperDispatch g = soldFor9();
        C.badState(() -> g.reserve(0, 1, 6, 999));
        g.setDemand(0, 9);
        g.pass(1);
        C.due(9, () -> g.price(0));
        C.due(1, () -> g.left(0, 1));
    }

    private static CopperDispatch soldFor9() {
        CopperDispatch g = new CopperDispatch();
        g.plant(0, 0, 10, 0, true);
        g.reserve(0, 1, 10, 9);
        g.feeder(0, 5);
        g.start(0);
        return g;
    }

    private static void promise24Left() {
        busy(NO_SUCH, g -> g.left(3, 0));
        busy(BAD_ARGUMENT, g -> g.left(0, 2));
    }

    private static void promise25Feeder() {
        busy(NO_SUCH, g -> g.feeder(8, 1));
        busy(BAD_ARGUMENT, g -> g.feeder(0, 61));
        busy(BAD_ARGUMENT, g -> g.feeder(0, -1));
        full(BAD_STATE, g -> g.feeder(0, 60));
    }

    private static void promise26SetDemand() {
        busy(NO_SUCH, g -> g.setDemand(3, 1));
        busy(NO_SUCH, g -> g.setDemand(-1, 1));
        busy(BAD_ARGUMENT, g -> g.setDemand(0, 61));
        busy(BAD_ARGUMENT, g -> g.setDemand(0, -1));
    }

    private static void promise27IsShed() {
        busy(NO_SUCH, g -> g.isShed(3));
    }

    private static void promise28Wheel() {
        busy(NO_SUCH, g -> g.wheel(8));
        full(BAD_STATE, g -> g.wheel(0));
    }

    private static void promise29Wind() {
        busy(NO_SUCH, g -> g.wind(1, true, 9));
        busy(NO_SUCH, g -> g.wind(-1, false, 9));
        busy(BAD_ARGUMENT, g -> g.wind(0, true, 61));
        busy(BAD_ARGUMENT, g -> g.wind(0, false, 61));
        busy(BAD_ARGUMENT, g -> g.wind(0, false, -1));
    }

    private static void promise30Store() {
        busy(NO_SUCH, g -> g.store(8, 1, 1, 0));
        busy(BAD_ARGUMENT, g -> g.store(0, 1000, 1, 0));
        busy(BAD_ARGUMENT, g -> g.store(0, 1, 51, 0));
        busy(BAD_ARGUMENT, g -> g.store(0, 1, 1, 51));
        full(BAD_STATE, g -> g.store(0, 999, 50, 0));
    }

    private static void promises31And32Questions() {
        busy(NO_SUCH, g -> g.level(1));
        busy(NO_SUCH, g -> g.amount(CopperDispatch.STORE, 1));
        busy(BAD_ARGUMENT, g -> g.amount(4, 0));
    }

    private static void promise33Pass() {
        busy(BAD_ARGUMENT, g -> g.pass(0));
        busy(BAD_ARGUMENT, g -> g.pass(101));
        busy(BAD_ARGUMENT, g -> g.pass(Integer.MAX_VALUE));
        // No minute of too many passes, also not those for which there is time still.
        keeps("late", RefusedTest::minute390, BAD_STATE, g -> g.pass(11));
        keeps("late", RefusedTest::minute390, BAD_STATE, g -> g.pass(100));
    }

    private static CopperDispatch minute390() {
        CopperDispatch g = busyGrid();
        g.pass(97);
        g.pass(90);
        g.pass(90);
        g.pass(90);
        g.clear(40);
        return g;
    }

    private static void promise35BreakMeter() {
        busy(NO_SUCH, g -> g.breakMeter(3, true));
        busy(NO_SUCH, g -> g.breakMeter(-1, true));
    }

    private static void promise36Reading() {
        busy(NO_SUCH, g -> g.reading(3, 0));
        busy(NO_SUCH, g -> g.reading(0, 3));
        busy(NO_SUCH, g -> g.reading(0, -1));
    }

    private static void promise37Correct() {
        busy(NO_SUCH, g -> g.correct(3, 1, 5));
        busy(NO_SUCH, g -> g.correct(2, 3, 5));
        busy(BAD_ARGUMENT, g -> g.correct(2, 1, -1));
        busy(BAD_ARGUMENT, g -> g.correct(2, 1, 601));
        // Not over; no gap; corrected.
        busy(BAD_STATE, g -> g.correct(2, 2, 5));
        busy(BAD_STATE, g -> g.correct(0, 1, 5));
        busy(BAD_STATE, g -> g.correct(2, 0, 5));
        CopperDispatch g = busyGrid();
        C.badArgument(() -> g.correct(2, 1, 601));
        int before = g.reading(2, 1);
        C.due(before, () -> g.correct(2, 1, 600));
    }

    private static void promises38And39Questions() {
        busy(NO_SUCH, g -> g.bill(CopperDispatch.WHEEL, 1, 0));
        busy(NO_SUCH, g -> g.bill(CopperDispatch.PLANT, 0, 3));
        busy(BAD_ARGUMENT, g -> g.bill(4, 0, 0));
        busy(NO_SUCH, g -> g.open(3));
        busy(NO_SUCH, g -> g.open(-1));
    }
}
