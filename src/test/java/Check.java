/** Compares answers with what is due, tells those that differ, and ends with exit code 1 if one did. */
final class Check {
    private static int wrong = 0;
    private static int right = 0;

    interface Call {
        void run();
    }

    private Check() {
    }

    static void same(String what, long got, long due) {
        note(got == due, what + " answered " + got + ", due is " + due);
    }

    static void same(String what, double got, double due) {
        note(got == due, what + " answered " + got + ", due is " + due);
    }

    static void holds(String what, boolean is) {
        note(is, what + " does not hold");
    }

    static void noIndex(String what, Call call) {
        throwing(what, call, IndexOutOfBoundsException.class);
    }

    static void noArgument(String what, Call call) {
        throwing(what, call, IllegalArgumentException.class);
    }

    static void noState(String what, Call call) {
        throwing(what, call, IllegalStateException.class);
    }

    /** As above, and nothing is changed by the refused call. */
    static void noIndex(String what, RhymeTax x, Call call) {
        unchanged(what, x, () -> noIndex(what, call));
    }

    static void noArgument(String what, RhymeTax x, Call call) {
        unchanged(what, x, () -> noArgument(what, call));
    }

    static void noState(String what, RhymeTax x, Call call) {
        unchanged(what, x, () -> noState(what, call));
    }

    static void unchanged(String what, RhymeTax x, Call call) {
        long before = x.digest();
        call.run();
        same(what + ": the digest then", x.digest(), before);
    }

    private static void throwing(String what, Call call, Class<? extends RuntimeException> due) {
        RuntimeException got = null;
        try {
            call.run();
        } catch (RuntimeException e) {
            got = e;
        }
        note(got != null && got.getClass() == due && isThrownByTheProgram(got),
                what + " threw " + got + ", due is " + due + ", thrown by the program");
    }

    /** The machine and its library must throw nothing: what they throw has another class's method on top. */
    private static boolean isThrownByTheProgram(RuntimeException e) {
        StackTraceElement[] trace = e.getStackTrace();
        return trace.length > 0 && trace[0].getClassName().equals("RhymeTax");
    }

    private static void note(boolean is, String fault) {
        if (is) {
            right++;
            return;
        }
        wrong++;
        if (wrong <= 50) {
            System.out.println(fault);
        }
    }

    static void end() {
        System.out.println(right + " answers as due, " + wrong + " not");
        if (wrong != 0 || right == 0) {
            System.exit(1);
        }
    }
}
