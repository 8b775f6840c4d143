/** Counts and prints what is not as due; a test ends with exit code 1 if there was anything. */
final class Check {
    private static int wrong = 0;

    private Check() {}

    interface Call {
        void run();
    }

    static void same(String what, long got, long due) {
        if (got != due) {
            fail(what + " answered " + got + ", due is " + due);
        }
    }

    static void same(String what, String got, String due) {
        if (!got.equals(due)) {
            fail(what + " answered " + got + ", due is " + due);
        }
    }

    static void is(String what, boolean got) {
        if (!got) {
            fail(what + " does not hold");
        }
    }

    /** The class must be just this one: a subclass would be an exception that came by itself. */
    static void throwing(String what, Class<?> due, Call call) {
        try {
            call.run();
            fail(what + " threw nothing, due is " + due.getSimpleName());
        } catch (RuntimeException e) {
            if (e.getClass() != due) {
                fail(what + " threw " + e + ", due is " + due.getSimpleName());
            }
        }
    }

    static void fail(String text) {
        wrong++;
        System.out.println(text);
    }

    static void end() {
        if (wrong != 0) {
            System.out.println(wrong + " answers are not as due");
            System.exit(1);
        }
    }
}
