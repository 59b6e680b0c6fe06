/** Grids that several tests begin with. */
final class Grids {
    private Grids() { }

    /** Nothing yet. */
    static CopperDispatch empty() {
        return new CopperDispatch();
    }

    /** Two of each, at minute 11, so that hour 0 is over and hour 1 has begun; line 1 is DEAD. */
    static CopperDispatch two() {
        CopperDispatch g = new CopperDispatch();
        for (int k = 0; k < 2; k++) {
            g.line(k, k + 1, 1, 50);
            g.plant(k, 0, 60, 0, true);
            g.feeder(k, 10);
            g.wheel(k);
            g.store(k, 99, 5, 10);
            g.start(k);
            g.breakMeter(k, true);
        }
        g.offer(0, 4, 20);
        g.clear(20);
        g.pass(1);
        g.switchLine(1, false);
        g.pass(10);
        g.stop(0);
        g.stop(1);
        return g;
    }

    /** As many of each as there can be, ahead of the first minute. */
    static CopperDispatch full() {
        CopperDispatch g = new CopperDispatch();
        for (int k = 0; k < 12; k++) {
            g.line(k % 8, (k + 1) % 8, 1 + k % 9, 50);
        }
        for (int k = 0; k < 8; k++) {
            g.plant(k, 0, 60, 0, true);
        }
        for (int k = 0; k < 10; k++) {
            g.feeder(k % 8, 10);
        }
        for (int k = 0; k < 4; k++) {
            g.wheel(k);
        }
        for (int k = 0; k < 3; k++) {
            g.store(k, 99, 5, 10);
        }
        return g;
    }

    /** One node: a plant that is ON and makes what the market told, up to 99, at the price 8; a feeder. */
    static CopperDispatch one(int scheduled, int demand) {
        CopperDispatch g = new CopperDispatch();
        g.plant(0, 0, 99, 0, true);
        g.offer(0, 8, 99);
        g.clear(scheduled);
        g.start(0);
        g.feeder(0, demand);
        return g;
    }
}
