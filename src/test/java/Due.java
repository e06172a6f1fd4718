/** Counts answers that are not the ones that are due, and tells them. */
final class Due {
    private static final int TOLD_MOST = 40;
    private static int wrong = 0;
    private static int asked = 0;

    private Due() {
    }

    static void due(String call, long got, long want) {
        asked++;
        if (got != want) {
            wrong++;
            if (wrong <= TOLD_MOST) {
                System.out.println(call + " answered " + got + ", due is " + want);
            }
        }
    }

    static void due(String call, boolean got, boolean want) {
        due(call, got ? 1 : 0, want ? 1 : 0);
    }

    static void due(String call, long[] got, long... want) {
        due(call + " (how many)", got.length, want.length);
        for (int k = 0; k < got.length && k < want.length; k++) {
            due(call + " [" + k + "]", got[k], want[k]);
        }
    }

    static void due(String call, String got, String want) {
        asked++;
        if (!got.equals(want)) {
            wrong++;
            System.out.println(call + " answered <" + got + ">, due is <" + want + ">");
        }
    }

    /** Ends the test. */
    static void finish() {
        System.out.println(asked + " answers, " + wrong + " of them wrong");
        System.exit(wrong == 0 && asked > 0 ? 0 : 1);
    }
}
