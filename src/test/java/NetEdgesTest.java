/** The edges that the document's terms name for the net, flows, heat and crews; a method for each sentence. */
public final class NetEdgesTest {
    private static final Check C = new Check();

    private NetEdgesTest() { }

    public static void main(String[] args) {
        islandIsOfLinesThatAreInAlone();
        islandIsToldByItsLowestNode();
        islandOfAllNodesAndOfOne();
        lineIsInAndColdAtFirst();
        switchLineAnswersWithoutTheDamage();
        stormTripsOnlyALineThatIsIn();
        heatOfExactlyOneTripsNot();
        heatAboveOneTrips();
        heatOfExactlyAQuarterIsInAgain();
        heatAboveAQuarterStaysTripped();
        damagedLineStaysTrippedWhenCold();
        trippedLineIsSwitchedIn();
        lineThatIsNotInCools();
        flowBackwardsHeatsAlike();
        heatIsCountedInFloats();
        sameWayLengthShares();
        longerWayCarriesNothing();
        remainderGoesToTheLowestLines();
        whatComesTogetherIsSharedTogether();
        flowsAgainstEachOtherAreLessened();
        sendersAndTakersGoByNumbers();
        sendersKeepToTheirIslands();
        storesSendAndTake();
        flowIsOfTheMinuteThatWasLast();
        flowAnewSeesNothingSwitchedSince();
        flowAnewSeesNothingTrippedSince();
        crewWorksOneMinute();
        crewWorksSixtyMinutes();
        permitIsHeldWhenTheWorkIsDone();
        permitOnALineOfTheOtherCrew();
        permitTellsTheOtherCrew();
        permitNeedsADeadLine();
        stormBehindTheWorkStays();
        stormDuringTheWorkIsMended();
        giveBackAsLongAsTheCrewWorks();
        C.end();
    }

    /** A wheel at node 0 behind one line to a feeder at node 1; the wheel follows the demand. */
    private static CopperDispatch wired(int limit) {
        CopperDispatch g = new CopperDispatch();
        g.line(0, 1, 1, limit);
        g.plant(0, 0, 1, 0, true);
        g.start(0);
        g.wheel(0);
        g.wind(0, true, 60);
        g.feeder(1, 0);
        return g;
    }

    private static void islandIsOfLinesThatAreInAlone() {
        CopperDispatch g = new CopperDispatch();
        g.line(0, 1, 1, 1);
        C.due(0, () -> g.island(1));
        g.switchLine(0, false);
        C.due(1, () -> g.island(1));
        g.switchLine(0, true);
        C.due(0, () -> g.island(1));
        g.storm(0);
        C.due(1, () -> g.island(1));
    }

    private static void islandIsToldByItsLowestNode() {
        CopperDispatch g = new CopperDispatch();
        g.line(7, 6, 1, 1);
        g.line(5, 4, 1, 1);
        C.due(6, () -> g.island(6));
        C.due(6, () -> g.island(7));
        C.due(4, () -> g.island(5));
        g.line(4, 7, 1, 1);
        C.due(4, () -> g.island(6));
        g.line(6, 2, 1, 1);
        for (int n = 4; n < 8; n++) {
            int node = n;
            C.due(2, () -> g.island(node));
        }
        C.due(3, () -> g.island(3));
    }

    private static void islandOfAllNodesAndOfOne() {
        CopperDispatch g = new CopperDispatch();
        int[] order = {7, 0, 6, 1, 5, 2, 4, 3};
        for (int k = 0; k < 7; k++) {
            g.line(order[k], order[k + 1], 1, 1);
        }
        for (int n = 0; n < 8; n++) {
            int node = n;
            C.due(0, () -> g.island(node));
        }
        for (int k = 0; k < 7; k++) {
            g.switchLine(k, false);
        }
        for (int n = 0; n < 8; n++) {
            int node = n;
            C.due(node, () -> g.island(node));
        }
    }

    private static void lineIsInAndColdAtFirst() {
        CopperDispatch g = new CopperDispatch();
        g.line(0, 1, 9, 1);
        C.due(0, () -> g.stateOf(0));
        C.due(0f, () -> g.heat(0));
        C.due(0, () -> g.flow(0));
        C.due(0, () -> g.flowAnew(0));
    }

    private static void switchLineAnswersWithoutTheDamage() {
        CopperDispatch g = new CopperDispatch();
        g.line(0, 1, 1, 1);
        C.due(0, () -> g.switchLine(0, true));
        g.storm(0);
        C.due(1, () -> g.switchLine(0, false));
        C.due(2, () -> g.switchLine(0, false));
    }

    private static void stormTripsOnlyALineThatIsIn() {
        CopperDispatch g = new CopperDispatch();
        g.line(0, 1, 1, 1);
        g.line(0, 1, 1, 1);
        g.switchLine(1, false);
        C.due(false, () -> g.storm(0));
        C.due(false, () -> g.storm(1));
        C.due(11, () -> g.stateOf(0));
        C.due(12, () -> g.stateOf(1));
        C.due(true, () -> g.storm(0));
        C.due(true, () -> g.storm(1));
        C.due(11, () -> g.stateOf(0));
        C.due(12, () -> g.stateOf(1));
    }

    private static void heatOfExactlyOneTripsNot() {
        CopperDispatch g = wired(10);
        g.setDemand(0, 40);
        g.pass(1);
        C.due(1f, () -> g.heat(0));
        C.due(0, () -> g.stateOf(0));
    }

    private static void heatAboveOneTrips() {
        CopperDispatch g = wired(10);
        g.setDemand(0, 41);
        g.pass(1);
        C.due(0.25f * 4.1f, () -> g.heat(0));
        C.due(1, () -> g.stateOf(0));
        C.due(41, () -> g.flow(0));
    }

    /** These flows lead to a heat that is exactly 0.25 after 8 minutes more. */
    private static CopperDispatch cooledToAQuarter() {
        CopperDispatch g = wired(5);
        for (int flow : new int[] {1, 8, 6, 2, 6, 5, 38}) {
            C.due(0, () -> g.stateOf(0));
            g.setDemand(0, flow);
            g.pass(1);
        }
        C.due(1, () -> g.stateOf(0));
        g.setDemand(0, 0);
        return g;
    }

    private static void heatOfExactlyAQuarterIsInAgain() {
        CopperDispatch g = cooledToAQuarter();
        g.pass(8);
        C.due(0.25f, () -> g.heat(0));
        C.due(1, () -> g.stateOf(0));
        g.pass(1);
        C.due(0, () -> g.stateOf(0));
        C.due(0.1875f, () -> g.heat(0));
    }

    private static void heatAboveAQuarterStaysTripped() {
        CopperDispatch g = cooledToAQuarter();
        g.pass(7);
        C.due(0.33333334f, () -> g.heat(0));
        g.pass(1);
        C.due(1, () -> g.stateOf(0));
    }

    private static void damagedLineStaysTrippedWhenCold() {
        CopperDispatch g = new CopperDispatch();
        g.line(0, 1, 1, 1);
        g.storm(0);
        C.due(0f, () -> g.heat(0));
        g.pass(3);
        C.due(11, () -> g.stateOf(0));
    }

    /** A line that is hot, but not damaged, can be switched in; it is TRIPPED anew if it is too hot still. */
    private static void trippedLineIsSwitchedIn() {
        CopperDispatch g = wired(10);
        g.setDemand(0, 60);
        g.pass(1);
        C.due(1.5f, () -> g.heat(0));
        C.due(1, () -> g.switchLine(0, true));
        C.due(0, () -> g.stateOf(0));
        g.setDemand(0, 0);
        g.pass(1);
        C.due(1.125f, () -> g.heat(0));
        C.due(1, () -> g.stateOf(0));
        g.switchLine(0, true);
        g.pass(1);
        C.due(0.84375f, () -> g.heat(0));
        C.due(0, () -> g.stateOf(0));
    }

    private static void lineThatIsNotInCools() {
        CopperDispatch g = wired(10);
        g.setDemand(0, 40);
        g.pass(1);
        g.switchLine(0, false);
        g.pass(1);
        C.due(0.75f, () -> g.heat(0));
        C.due(0, () -> g.flow(0));
        // One that is DEAD does not come IN by being cool.
        g.pass(20);
        C.due(2, () -> g.stateOf(0));
    }

    private static void flowBackwardsHeatsAlike() {
        CopperDispatch g = new CopperDispatch();
        g.line(1, 0, 1, 10);
        g.plant(0, 0, 1, 0, true);
        g.start(0);
        g.wheel(0);
        g.wind(0, true, 41);
        g.feeder(1, 41);
        g.pass(1);
        C.due(-41, () -> g.flow(0));
        C.due(0.25f * 4.1f, () -> g.heat(0));
        C.due(1, () -> g.stateOf(0));
    }

    /** The difference first, and all in floats. */
    private static void heatIsCountedInFloats() {
        CopperDispatch g = wired(97);
        float heat = 0f;
        for (int flow = 1; flow < 60; flow += 4) {
            g.setDemand(0, flow);
            g.pass(1);
            float x = (float) flow / 97f;
            heat = heat + 0.25f * (x - heat);
            float due = heat;
            C.due(due, () -> g.heat(0));
        }
    }

    private static CopperDispatch sending(int amount, int to) {
        CopperDispatch g = new CopperDispatch();
        g.plant(0, 0, 99, 0, true);
        g.offer(0, 1, 99);
        g.clear(amount);
        g.start(0);
        g.feeder(to, amount);
        return g;
    }

    private static void flows(CopperDispatch g, int... due) {
        for (int k = 0; k < due.length; k++) {
            int line = k;
            C.due(due[line], () -> g.flow(line));
            C.due(due[line], () -> g.flowAnew(line));
        }
    }

    /** 9 in one line and 4 and 5 in two are as long. */
    private static void sameWayLengthShares() {
        CopperDispatch g = sending(10, 2);
        g.line(0, 2, 9, 99);
        g.line(0, 1, 4, 99);
        g.line(1, 2, 5, 99);
        g.pass(1);
        flows(g, 5, 5, 5);
    }

    private static void longerWayCarriesNothing() {
        CopperDispatch g = sending(10, 2);
        g.line(0, 2, 8, 99);
        g.line(0, 1, 4, 99);
        g.line(1, 2, 5, 99);
        g.pass(1);
        flows(g, 10, 0, 0);
        g.switchLine(0, false);
        g.pass(1);
        flows(g, 0, 10, 10);
    }

    /** 5 over three lines: 2, 2 and 1; 1 goes over the lowest one alone. */
    private static void remainderGoesToTheLowestLines() {
        CopperDispatch g = sending(5, 1);
        g.line(0, 1, 2, 99);
        g.line(0, 2, 1, 99);
        g.line(1, 0, 2, 99);
        g.line(2, 1, 1, 99);
        g.pass(1);
        flows(g, 2, 2, -1, 2);
        g.setDemand(0, 1);
        g.pass(1);
        flows(g, 1, 0, 0, 0);
        g.setDemand(0, 3);
        g.pass(1);
        flows(g, 1, 1, -1, 1);
        g.setDemand(0, 0);
        g.pass(1);
        flows(g, 0, 0, 0, 0);
    }

    /** 3 and 3 come to node 3, and 6 are shared there over two lines: not 2 and 1 twice. */
    private static void whatComesTogetherIsSharedTogether() {
        CopperDispatch g = sending(6, 4);
        g.line(0, 1, 1, 99);
        g.line(0, 2, 1, 99);
        g.line(1, 3, 1, 99);
        g.line(2, 3, 1, 99);
        g.line(3, 4, 1, 99);
        g.line(4, 3, 1, 99);
        g.pass(1);
        flows(g, 3, 3, 3, 3, 3, -3);
    }

    /** 1 sends 5 to 3, 2 sends 3 to 0: over the line from 1 to 2 go 5 less 3. */
    private static void flowsAgainstEachOtherAreLessened() {
        CopperDispatch g = new CopperDispatch();
        g.line(0, 1, 1, 99);
        g.line(1, 2, 1, 99);
        g.line(2, 3, 1, 99);
        g.plant(1, 0, 1, 0, true);
        g.start(0);
        g.wheel(1);
        g.wheel(2);
        g.wind(0, true, 5);
        g.wind(1, true, 3);
        g.feeder(0, 3);
        g.feeder(3, 5);
        g.pass(1);
        // 1 sends 3 to 0 and 2 to 3, then 2 sends 3 to 3.
        flows(g, -3, 2, 5);
        g.wind(0, true, 3);
        g.wind(1, true, 5);
        g.setDemand(0, 5);
        g.setDemand(1, 3);
        g.pass(1);
        // 1 sends 3 to 0; 2 sends 2 to 0 and 3 to 3.
        flows(g, -5, -2, 3);
        CopperDispatch h = new CopperDispatch();
        h.line(0, 1, 1, 99);
        h.plant(0, 0, 1, 0, true);
        h.start(0);
        for (int node = 0; node < 2; node++) {
            h.wheel(node);
            h.wind(node, true, 7);
            h.feeder(node, 7);
        }
        h.pass(1);
        // Each node has what it wants.
        flows(h, 0);
    }

    /** 0 and 3 have 4 each, 1 wants 6 and 2 wants 2: 0 gives all to 1, 3 gives 2 to 1 and 2 to 2. */
    private static void sendersAndTakersGoByNumbers() {
        CopperDispatch g = new CopperDispatch();
        g.line(0, 1, 1, 99);
        g.line(0, 2, 1, 99);
        g.line(3, 1, 1, 99);
        g.line(3, 2, 1, 99);
        g.plant(0, 0, 1, 0, true);
        g.start(0);
        g.wheel(0);
        g.wheel(3);
        g.wind(0, true, 4);
        g.wind(1, true, 4);
        g.feeder(2, 2);
        g.feeder(1, 6);
        g.pass(1);
        flows(g, 4, 0, 2, 2);
    }

    /** 0 and 1 have too much, 2 and 3 too little: 2 is the lower one, but not in the island of 0. */
    private static void sendersKeepToTheirIslands() {
        CopperDispatch g = new CopperDispatch();
        g.line(0, 3, 1, 99);
        g.line(1, 2, 1, 99);
        for (int node = 0; node < 2; node++) {
            g.plant(node, 0, 1, 0, true);
            g.start(node);
            g.wheel(node);
            g.wind(node, true, 5 + node);
            g.feeder(3 - node, 5 + node);
        }
        g.pass(1);
        flows(g, 5, 6);
        g.setDemand(0, 1);
        g.pass(1);
        flows(g, 1, 6);
        g.setDemand(0, 5);
        g.setDemand(1, 0);
        g.pass(1);
        flows(g, 5, 0);
    }

    /** A store takes in over the line, and gives back over it. */
    private static void storesSendAndTake() {
        CopperDispatch g = sending(10, 0);
        g.line(0, 1, 1, 99);
        g.store(1, 9, 4, 0);
        g.setDemand(0, 7);
        g.pass(1);
        flows(g, 3);
        g.setDemand(0, 12);
        g.pass(1);
        flows(g, -2);
    }

    private static void flowIsOfTheMinuteThatWasLast() {
        CopperDispatch g = sending(10, 1);
        g.line(0, 1, 1, 99);
        g.pass(1);
        flows(g, 10);
        g.setDemand(0, 4);
        g.stop(0);
        g.switchLine(0, false);
        flows(g, 10);
        g.pass(1);
        flows(g, 0);
    }

    private static void flowAnewSeesNothingSwitchedSince() {
        CopperDispatch g = sending(10, 1);
        g.line(0, 1, 1, 99);
        g.line(0, 1, 2, 99);
        g.switchLine(1, false);
        g.pass(1);
        g.switchLine(0, false);
        g.switchLine(1, true);
        g.line(0, 1, 1, 99);
        g.feeder(1, 3);
        g.wheel(0);
        flows(g, 10, 0, 0);
    }

    private static void flowAnewSeesNothingTrippedSince() {
        CopperDispatch g = sending(10, 1);
        g.line(0, 1, 1, 1);
        g.pass(1);
        C.due(1, () -> g.stateOf(0));
        flows(g, 10);
    }

    private static CopperDispatch damaged() {
        CopperDispatch g = new CopperDispatch();
        g.line(0, 1, 1, 1);
        g.line(0, 1, 1, 1);
        g.storm(0);
        g.switchLine(0, false);
        g.switchLine(1, false);
        return g;
    }

    private static void crewWorksOneMinute() {
        CopperDispatch g = damaged();
        g.permit(0, 0, 1);
        C.due(12, () -> g.stateOf(0));
        C.badState(() -> g.giveBack(0));
        g.pass(1);
        C.due(2, () -> g.stateOf(0));
        C.due(0, () -> g.giveBack(0));
    }

    private static void crewWorksSixtyMinutes() {
        CopperDispatch g = damaged();
        g.permit(1, 0, 60);
        g.pass(59);
        C.due(12, () -> g.stateOf(0));
        C.badState(() -> g.giveBack(1));
        g.pass(1);
        C.due(2, () -> g.stateOf(0));
        C.due(0, () -> g.giveBack(1));
    }

    private static void permitIsHeldWhenTheWorkIsDone() {
        CopperDispatch g = damaged();
        g.permit(0, 0, 1);
        g.pass(5);
        C.badState(() -> g.switchLine(0, true));
        C.badState(() -> g.permit(0, 1, 1));
        C.badState(() -> g.permit(1, 0, 1));
        g.giveBack(0);
        C.due(2, () -> g.switchLine(0, true));
        C.due(-1, () -> g.permit(0, 1, 1));
    }

    private static void permitOnALineOfTheOtherCrew() {
        CopperDispatch g = damaged();
        g.permit(0, 0, 1);
        C.badState(() -> g.permit(1, 0, 1));
        C.due(0, () -> g.permit(1, 1, 1));
    }

    private static void permitTellsTheOtherCrew() {
        CopperDispatch g = damaged();
        C.due(-1, () -> g.permit(1, 0, 1));
        C.due(1, () -> g.permit(0, 1, 1));
        g.pass(1);
        g.giveBack(1);
        // The other one has its permit still, though its work is done.
        C.due(0, () -> g.permit(1, 0, 1));
        g.giveBack(0);
        g.pass(1);
        g.giveBack(1);
        C.due(-1, () -> g.permit(0, 1, 1));
    }

    private static void permitNeedsADeadLine() {
        CopperDispatch g = new CopperDispatch();
        g.line(0, 1, 1, 1);
        C.badState(() -> g.permit(0, 0, 1));
        g.storm(0);
        C.badState(() -> g.permit(0, 0, 1));
        g.switchLine(0, false);
        C.due(-1, () -> g.permit(0, 0, 1));
    }

    private static void stormBehindTheWorkStays() {
        CopperDispatch g = damaged();
        g.permit(0, 0, 2);
        g.pass(2);
        C.due(false, () -> g.storm(0));
        g.pass(3);
        C.due(12, () -> g.stateOf(0));
        g.giveBack(0);
        C.badState(() -> g.switchLine(0, true));
    }

    private static void stormDuringTheWorkIsMended() {
        CopperDispatch g = damaged();
        g.permit(0, 1, 2);
        g.pass(1);
        C.due(false, () -> g.storm(1));
        C.due(12, () -> g.stateOf(1));
        g.pass(1);
        C.due(2, () -> g.stateOf(1));
        // The permit was on line 1: line 0 stays damaged.
        C.due(12, () -> g.stateOf(0));
    }

    private static void giveBackAsLongAsTheCrewWorks() {
        CopperDispatch g = damaged();
        C.badState(() -> g.giveBack(0));
        g.permit(0, 1, 3);
        g.pass(2);
        C.badState(() -> g.giveBack(0));
        C.badState(() -> g.giveBack(1));
        g.pass(1);
        C.due(1, () -> g.giveBack(0));
        C.badState(() -> g.giveBack(0));
        C.due(2, () -> g.stateOf(1));
    }
}
