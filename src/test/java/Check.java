/** Counts and prints what is not as due; a test ends with exit code 1 if there was anything. */
final class Check {
    private static int wrong = 0;
    private static String sentence = "";

    private Check() {}

    interface Call {
        void run();
    }

    /** The test of one sentence of the document; what fails in it is told under that sentence. */
    static void sentence(String words, Call test) {
        sentence = words;
        try {
            test.run();
        } catch (RuntimeException | StackOverflowError e) {
            fail("the test was ended by " + e);
        }
        sentence = "";
    }

    static void same(String what, long got, long due) {
        if (got != due) {
            fail(what + " answered " + got + ", due is " + due);
        }
    }

    static void same(String what, String got, String due) {
        if (!got.equals(due)) {
            fail(what + " answered " + got + ", due is " + due);
        }
    }

    static void is(String what, boolean got) {
        if (!got) {
            fail(what + " does not hold");
        }
    }

    /** The class must be just this one: a subclass would be an exception that came by itself. */
    static void throwing(String what, Class<?> due, Call call) {
        try {
            call.run();
            fail(what + " threw nothing, due is " + due.getSimpleName());
        } catch (RuntimeException e) {
            if (e.getClass() != due) {
                fail(what + " threw " + e + ", due is " + due.getSimpleName());
            }
        }
    }

    static void fail(String text) {
        wrong++;
        System.out.println((sentence.isEmpty() ? "" : "\"" + sentence + "\": ") + text);
    }

    static void end() {
        if (wrong != 0) {
            System.out.println(wrong + " answers are not as due");
            System.exit(1);
        }
    }
}
