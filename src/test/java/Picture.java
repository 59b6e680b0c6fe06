import java.util.function.Supplier;

/** What a grid answers, in one text. */
final class Picture {
    private final CopperDispatch g;
    private final StringBuilder all = new StringBuilder();

    private Picture(CopperDispatch grid) {
        g = grid;
    }

    /** All that can be asked of a grid as it is. */
    static String of(CopperDispatch grid) {
        Picture picture = new Picture(grid);
        picture.askNow();
        return picture.all.toString();
    }

    /** How a grid goes on: what it answers to calls of all kinds, and how it looks over the minutes to come. */
    static String ofFuture(CopperDispatch grid) {
        Picture picture = new Picture(grid);
        for (int k = 0; k < 12; k++) {
            picture.askByCalls(k);
        }
        for (int k = 0; k < 24; k++) {
            picture.goOn(k);
            picture.askNow();
        }
        return picture.all.toString();
    }

    private void askNow() {
        int hours = (g.minute() + 9) / 10;
        ask(() -> g.minute() + " " + g.missing());
        for (int k = 0; k < 12; k++) {
            int one = k;
            ask(() -> g.stateOf(one) + " " + g.heat(one) + " " + g.flow(one) + " " + g.flowAnew(one));
            ask(() -> g.island(one) + " " + g.price(one));
            ask(() -> g.plantState(one) + " " + g.base(one) + " " + g.scheduled(one) + " " + g.left(one, 0)
                + " " + g.left(one, 1));
            ask(() -> String.valueOf(g.isShed(one)));
            ask(() -> String.valueOf(g.level(one)));
            for (int what = 0; what < 4; what++) {
                int kind = what;
                ask(() -> g.amount(kind, one) + " ");
                for (int h = 0; h < hours; h++) {
                    int hour = h;
                    ask(() -> g.bill(kind, one, hour) + " ");
                }
            }
            for (int h = 0; h < hours; h++) {
                int hour = h;
                ask(() -> g.reading(one, hour) + " ");
            }
        }
        for (int h = 0; h <= hours; h++) {
            int hour = h;
            ask(() -> g.open(hour) + " ");
        }
    }

    /** What no question tells: what is only seen in what calls answer and change. */
    private void askByCalls(int k) {
        ask(() -> g.reserve(k, 0, 1, 3) + " " + g.reserve(k, 1, 1, 3));
        ask(() -> String.valueOf(g.breakMeter(k, k % 2 == 0)));
        ask(() -> g.wind(k, true, 12) + " " + g.wind(k, false, 4));
        ask(() -> g.setDemand(k, 10 + k) + " ");
        ask(() -> g.offer(k, 70, 1) + " ");
        ask(() -> g.permit(0, k, 3) + " ");
        ask(() -> g.permit(1, k, 2) + " ");
    }

    private void goOn(int k) {
        if (k == 12) {
            for (int plant = 0; plant < 8; plant++) {
                int one = plant;
                ask(() -> g.withdraw(one) + " " + g.offer(one, 8, 9));
                ask(() -> g.start(one) + " ");
            }
            ask(() -> g.clear(35) + " ");
        }
        ask(() -> g.giveBack(0) + " ");
        ask(() -> g.giveBack(1) + " ");
        for (int line = 0; line < 12; line++) {
            int one = line;
            ask(() -> g.switchLine(one, true) + " ");
        }
        ask(() -> g.pass(1) + " ");
    }

    private void ask(Supplier<String> question) {
        try {
            all.append(question.get()).append('|');
        } catch (IndexOutOfBoundsException | IllegalArgumentException | IllegalStateException e) {
            all.append(e.getClass().getSimpleName()).append('|');
        }
    }
}
