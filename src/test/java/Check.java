/** Compares answers with what is due, tells those that differ, and ends with exit code 1 if one did. */
final class Check {
    private static int wrong = 0;
    private static int right = 0;

    interface Call {
        void run();
    }

    private Check() {
    }

    static void same(String what, long got, long due) {
        note(got == due, what + " answered " + got + ", due is " + due);
    }

    static void same(String what, double got, double due) {
        note(got == due, what + " answered " + got + ", due is " + due);
    }

    static void holds(String what, boolean is) {
        note(is, what + " does not hold");
    }

    static void noIndex(String what, Call call) {
        throwing(what, call, IndexOutOfBoundsException.class);
    }

    static void noArgument(String what, Call call) {
        throwing(what, call, IllegalArgumentException.class);
    }

    static void noState(String what, Call call) {
        throwing(what, call, IllegalStateException.class);
    }

    private static void throwing(String what, Call call, Class<? extends RuntimeException> due) {
        Class<?> got = null;
        try {
            call.run();
        } catch (RuntimeException e) {
            got = e.getClass();
        }
        note(got == due, what + " threw " + got + ", due is " + due);
    }

    private static void note(boolean is, String fault) {
        if (is) {
            right++;
            return;
        }
        wrong++;
        if (wrong <= 50) {
            System.out.println(fault);
        }
    }

    static void end() {
        System.out.println(right + " answers as due, " + wrong + " not");
        if (wrong != 0 || right == 0) {
            System.exit(1);
        }
    }
}
