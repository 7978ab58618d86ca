/** Counts the answers that are not the ones that are due, as the tests under ../shared/tests do. */
final class Check {
    private static final int MOST_PRINTED = 200;
    private static int wrong;
    private static int checked;
    private static String where = "";

    private Check() {
    }

    /** Names the promise or rule that the calls after it try. */
    static void of(String promise) {
        where = promise;
    }

    static void due(String call, long got, long want) {
        checked++;
        if (got != want) {
            wrong++;
        }
        if (got != want && wrong <= MOST_PRINTED) {
            System.out.println(where + ": " + call + " answered " + got + ", due is " + want);
        }
    }

    static void due(String call, boolean got, boolean want) {
        due(call, got ? 1L : 0L, want ? 1L : 0L);
    }

    static void end() {
        System.out.println(checked + " answers looked at, " + wrong + " not as due");
        if (wrong != 0 || checked == 0) {
            System.exit(1);
        }
    }
}
