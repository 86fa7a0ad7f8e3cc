/** Counts the answers that are not as due; a test ends with exit code 1 if there was one. */
final class Due {
    static final Class<?> ARGUMENT = IllegalArgumentException.class;
    static final Class<?> STATE = IllegalStateException.class;
    static final Class<?> INDEX = IndexOutOfBoundsException.class;

    private static int wrong = 0;

    private Due() { }

    static void same(String call, long got, long want) {
        if (got != want) {
            say(call + " answered " + got + ", due is " + want);
        }
    }

    static void isTrue(String what, boolean holds) {
        if (!holds) {
            say(what + " does not hold");
        }
    }

    static void refused(String call, Class<?> want, Runnable run) {
        Class<?> got = thrown(run);
        if (got != want) {
            say(call + " threw " + got + ", due is " + want);
        }
    }

    static void taken(String call, Runnable run) {
        refused(call, null, run);
    }

    static void end() {
        System.out.println(wrong == 0 ? "all answers are as due" : wrong + " answers are not as due");
        if (wrong != 0) {
            System.exit(1);
        }
    }

    private static Class<?> thrown(Runnable run) {
        try {
            run.run();
            return null;
        } catch (RuntimeException e) {
            return e.getClass();
        }
    }

    private static void say(String text) {
        wrong++;
        System.out.println(text);
    }
}
