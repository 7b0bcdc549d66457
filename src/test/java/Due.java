/** Counts the answers that are not as due. */
final class Due {
    interface Call {
        void run();
    }

    private int wrong = 0;

    void is(String call, long got, long want) {
        if (got != want) {
            fail(call + " answered " + got + ", due is " + want);
        }
    }

    void is(String call, boolean got, boolean want) {
        if (got != want) {
            fail(call + " answered " + got + ", due is " + want);
        }
    }

    void is(String call, double got, double want) {
        if (got != want) {
            fail(call + " answered " + got + ", due is " + want);
        }
    }

    /** The call is to throw just this exception, and to leave the checker as it was. */
    void throwing(String call, Class<? extends RuntimeException> want, ProductLineChecker x, Call made) {
        long before = trace(x);
        Class<?> got = thrownBy(made);
        if (got != want) {
            fail(call + " threw " + (got == null ? "nothing" : got.getName()) + ", due is " + want.getName());
        }
        if (trace(x) != before) {
            fail(call + " threw, but changed the checker");
        }
    }

    void fail(String what) {
        wrong++;
        System.out.println(what);
    }

    void end() {
        System.out.println(wrong == 0 ? "all answers are as due" : wrong + " answers are not as due");
        if (wrong != 0) {
            System.exit(1);
        }
    }

    static Class<?> thrownBy(Call made) {
        try {
            made.run();
        } catch (RuntimeException e) {
            return e.getClass();
        }
        return null;
    }

    private static long trace(ProductLineChecker x) {
        long trace = x.digest();
        for (int sort = 0; sort <= 4; sort++) {
            trace = trace * 31 + x.count(sort);
        }
        return trace;
    }
}
