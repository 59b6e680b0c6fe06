import java.util.ArrayList;
import java.util.List;

/** Counts what is not as due, and tells where. */
final class Check {
    interface Call {
        Object run();
    }

    /** A call on a grid, with one of its arguments left open. */
    interface Asked {
        Object on(CopperDispatch g, int value);
    }

    interface Maker {
        CopperDispatch make();
    }

    private int asked = 0;
    private int wrong = 0;

    void due(Object due, Call call) {
        look(due, call);
    }

    void noSuch(Call call) {
        look(IndexOutOfBoundsException.class, call);
    }

    void badArgument(Call call) {
        look(IllegalArgumentException.class, call);
    }

    void badState(Call call) {
        look(IllegalStateException.class, call);
    }

    /** An argument is a number of something: 0 to last are taken, all others are not. */
    void numbers(Maker maker, int last, Asked call) {
        range(IndexOutOfBoundsException.class, maker, 0, last, call);
    }

    /** An argument is a value from low to high: these are taken, all others are not. */
    void values(Maker maker, int low, int high, Asked call) {
        range(IllegalArgumentException.class, maker, low, high, call);
    }

    private void range(Class<?> refusal, Maker maker, int low, int high, Asked call) {
        for (int value : new int[] {low, low + (high - low) / 2, high}) {
            CopperDispatch g = maker.make();
            look(value + " is taken", () -> {
                call.on(g, value);
                return value + " is taken";
            });
        }
        // Some of these would be in the range again if they were cut to fewer bits, or taken times 10.
        int[] refused = {
            low - 1, high + 1, low - 2, high + 2, -high - 1, low + 256, high - 256 < low ? high - 256 : low - 256,
            low + 65536, low - 65536, 214748365, 429496730, -429496730, 858993460, Integer.MIN_VALUE,
            Integer.MIN_VALUE + low, Integer.MIN_VALUE + high, Integer.MAX_VALUE, Integer.MAX_VALUE - high
        };
        for (int value : refused) {
            if (value < low || value > high) {
                CopperDispatch g = maker.make();
                look(refusal, () -> call.on(g, value) + " for " + value);
            }
        }
    }

    private void look(Object due, Call call) {
        Object is;
        try {
            is = call.run();
        } catch (RuntimeException e) {
            is = e.getClass();
        }
        asked++;
        if (!is.equals(due)) {
            wrong++;
            System.out.println(from() + ": is " + is + ", due is " + due);
        }
    }

    /** The lines of the test that led here, the innermost one first. */
    private static String from() {
        List<String> lines = new ArrayList<>();
        for (StackTraceElement element : new Throwable().getStackTrace()) {
            boolean isOwn = element.getClassName().equals(Check.class.getName());
            if (!isOwn && !element.getMethodName().equals("main")) {
                lines.add(element.toString());
            }
        }
        return String.join(" in ", lines);
    }

    void end() {
        System.out.println(asked + " asked, " + wrong + " wrong");
        if (wrong > 0 || asked == 0) {
            System.exit(1);
        }
    }
}
