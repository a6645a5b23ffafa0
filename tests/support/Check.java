/** Counts the answers that are not due, and ends a test with exit code 1 if there was one. */
public final class Check {
    /** A call that may answer a number; void calls answer 0. */
    public interface Call {
        long answer();
    }

    private static final int MOST_PRINTED = 40;
    private static int asked = 0;
    private static int wrong = 0;

    public static void due(String what, long want, Call call) {
        String name = nameOf(call);
        report(what, name, String.valueOf(want));
    }

    public static void index(String what, Call call) {
        report(what, nameOf(call), "IndexOutOfBoundsException");
    }

    public static void argument(String what, Call call) {
        report(what, nameOf(call), "IllegalArgumentException");
    }

    public static void state(String what, Call call) {
        report(what, nameOf(call), "IllegalStateException");
    }

    /** Returns the answer, or the simple name of the exception, as a text. */
    public static String nameOf(Call call) {
        try {
            return String.valueOf(call.answer());
        } catch (RuntimeException e) {
            return e.getClass().getSimpleName();
        }
    }

    public static void report(String what, String got, String want) {
        asked++;
        if (!got.equals(want)) {
            wrong++;
            if (wrong <= MOST_PRINTED) {
                System.out.println(what + " answered " + got + ", due is " + want);
            }
        }
    }

    public static void finish() {
        System.out.println(asked + " answers, " + wrong + " not as due");
        if (wrong != 0 || asked == 0) {
            System.exit(1);
        }
    }
}
