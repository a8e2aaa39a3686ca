/** Counts the answers that are not the ones that are due; a test's main method closes with end(). */
final class Due {
    private static final long MOST_PRINTED = 50;
    private static long asked = 0;
    private static long wrong = 0;

    private Due() {
    }

    static void is(String call, long got, long want) {
        asked++;
        if (got != want) {
            tellWrong(call + " answered " + got + ", due is " + want);
        }
    }

    static void yes(String call, boolean got) {
        is(call, got ? 1 : 0, 1);
    }

    static void no(String call, boolean got) {
        is(call, got ? 1 : 0, 0);
    }

    static void same(String what, Object got, Object want) {
        asked++;
        if (!got.equals(want)) {
            tellWrong(what + ": " + got + ", due is " + want);
        }
    }

    private static void tellWrong(String line) {
        wrong++;
        if (wrong <= MOST_PRINTED) {
            System.out.println(line);
        }
    }

    static boolean anyWrong() {
        return wrong != 0;
    }

    static void end() {
        System.out.println(asked + " answers, " + wrong + " not as due");
        if (asked == 0 || wrong != 0) {
            System.exit(1);
        }
    }
}
