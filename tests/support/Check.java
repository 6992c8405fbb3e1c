/** Counts the answers that are not as due, and ends the test with exit code 1 if there was one. */
final class Check {
    interface Call {
        void run();
    }

    static final Class<? extends RuntimeException> INDEX = IndexOutOfBoundsException.class;
    static final Class<? extends RuntimeException> ARGUMENT = IllegalArgumentException.class;
    static final Class<? extends RuntimeException> STATE = IllegalStateException.class;

    private static int checks = 0;
    private static int wrong = 0;
    private static String about = "";

    private Check() {
    }

    /** What the checks from now on are about: reports name it. */
    static void about(String what) {
        about = what + ": ";
    }

    static void equal(String call, long got, long due) {
        checks++;
        if (got != due) {
            report(call + " answered " + got + ", due is " + due);
        }
    }

    static void equal(String call, double got, double due) {
        checks++;
        if (Double.compare(got, due) != 0) {
            report(call + " answered " + got + ", due is " + due);
        }
    }

    static void yes(String call, boolean got) {
        equal(call, got ? 1 : 0, 1);
    }

    static void no(String call, boolean got) {
        equal(call, got ? 1 : 0, 0);
    }

    /** The call throws just this exception. */
    static void thrown(String call, Class<? extends RuntimeException> due, Call run) {
        checks++;
        Class<?> got = null;
        try {
            run.run();
        } catch (RuntimeException e) {
            got = e.getClass();
        }
        if (got != due) {
            report(call + " threw " + got + ", due is " + due);
        }
    }

    /** The call throws just this exception, and the object's digest stays as it was. */
    static void refused(EchoBureau bureau, String call, Class<? extends RuntimeException> due, Call run) {
        long before = bureau.digest();
        thrown(call, due, run);
        equal("digest() behind " + call, bureau.digest(), before);
    }

    static void report(String text) {
        wrong++;
        System.out.println(about + text);
    }

    static void end() {
        System.out.println(checks + " checks, " + wrong + " wrong");
        if (wrong != 0 || checks == 0) {
            System.exit(1);
        }
    }
}
