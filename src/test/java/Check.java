/** Counts the answers of a test that are not as due, and tells each of them. */
final class Check {
    interface Call {
        double answer();
    }

    interface Told {
        boolean answer();
    }

    private static int asked = 0;
    private static int wrong = 0;
    private static long seed = 20261119L;

    private Check() {
    }

    static void due(String what, double want, Call call) {
        asked++;
        double got;
        try {
            got = call.answer();
        } catch (RuntimeException thrown) {
            tellWrong(what, "threw " + thrown.getClass().getName(), "due is " + want);
            return;
        }
        if (got != want) {
            tellWrong(what, "answered " + got, "due is " + want);
        }
    }

    static void dueLong(String what, long want, long got) {
        asked++;
        if (got != want) {
            tellWrong(what, "answered " + got, "due is " + want);
        }
    }

    static void holds(String what, Told told) {
        due(what, 1, () -> told.answer() ? 1 : 0);
    }

    static void holdsNot(String what, Told told) {
        due(what, 0, () -> told.answer() ? 1 : 0);
    }

    /**
     * The exception must be of just this class, and thrown in Koebehall itself: the machine's own ones are of classes
     * below it, and those of a list come from the list.
     */
    static void refused(String what, Class<? extends RuntimeException> kind, Call call) {
        asked++;
        try {
            double got = call.answer();
            tellWrong(what, "answered " + got, "due is " + kind.getName());
        } catch (RuntimeException thrown) {
            StackTraceElement[] open = thrown.getStackTrace();
            String thrower = open.length == 0 ? "" : open[0].getClassName();
            if (thrown.getClass() != kind || !thrower.startsWith("Koebehall")) {
                tellWrong(what, "threw " + thrown.getClass().getName() + " in " + thrower, "due is " + kind.getName());
            }
        }
    }

    static void noIndex(String what, Call call) {
        refused(what, IndexOutOfBoundsException.class, call);
    }

    static void noArgument(String what, Call call) {
        refused(what, IllegalArgumentException.class, call);
    }

    static void noState(String what, Call call) {
        refused(what, IllegalStateException.class, call);
    }

    /** A number from 0 on, below some other; always the same row of them. */
    static int pick(int below) {
        seed = seed * 6364136223846793005L + 1442695040888963407L;
        return (int) ((seed >>> 33) % below);
    }

    static int pickFrom(int low, int high) {
        return low + pick(high - low + 1);
    }

    static void end() {
        System.out.println((wrong == 0 ? "as due: " : "NOT as due: " + wrong + " of ") + asked + " answers");
        if (wrong > 0) {
            System.exit(1);
        }
    }

    private static void tellWrong(String what, String got, String want) {
        wrong++;
        if (wrong <= 20) {
            System.out.println(what + " " + got + ", " + want);
        }
    }
}
