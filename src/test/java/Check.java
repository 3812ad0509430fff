/** Counts what is not as due, tells it, and ends a test with the exit code that says so. */
final class Check {
    private final String test;
    private int asked = 0;
    private int wrong = 0;

    Check(String test) {
        this.test = test;
    }

    void same(String what, long got, long due) {
        asked++;
        if (got != due) {
            wrong++;
            System.out.println(test + ": " + what + " answered " + got + ", due is " + due);
        }
    }

    void same(String what, boolean got, boolean due) {
        same(what, got ? 1L : 0L, due ? 1L : 0L);
    }

    void refuses(String what, Class<? extends RuntimeException> due, Runnable call) {
        Class<?> got = null;
        try {
            call.run();
        } catch (RuntimeException e) {
            got = e.getClass();
        }
        asked++;
        if (got != due) {
            wrong++;
            System.out.println(test + ": " + what + " threw " + got + ", due is " + due);
        }
    }

    /** Asks that count 0 to 8 of a stream are these, in their order. */
    void counts(String when, LineCoder x, int stream, int... due) {
        for (int what = 0; what < due.length; what++) {
            same(when + ": count(" + stream + ", " + what + ")", x.count(stream, what), due[what]);
        }
    }

    void end() {
        System.out.println(test + ": " + asked + " answers, " + wrong + " not as due");
        if (wrong != 0 || asked == 0) {
            System.exit(1);
        }
    }
}
