/** Counts what is not as due, and tells where. */
final class Check {
    interface Call {
        Object run();
    }

    private int asked = 0;
    private int wrong = 0;

    void due(Object due, Call call) {
        look(due, call);
    }

    void noSuch(Call call) {
        look(IndexOutOfBoundsException.class, call);
    }

    void badArgument(Call call) {
        look(IllegalArgumentException.class, call);
    }

    void badState(Call call) {
        look(IllegalStateException.class, call);
    }

    private void look(Object due, Call call) {
        Object is;
        try {
            is = call.run();
        } catch (RuntimeException e) {
            is = e.getClass();
        }
        asked++;
        if (!is.equals(due)) {
            wrong++;
            StackTraceElement from = new Throwable().getStackTrace()[2];
            System.out.println(from + ": is " + is + ", due is " + due);
        }
    }

    void end() {
        System.out.println(asked + " asked, " + wrong + " wrong");
        if (wrong > 0 || asked == 0) {
            System.exit(1);
        }
    }
}
