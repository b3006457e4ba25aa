/** Answers held against what is due; each names its promise and the sentence it comes from. */
final class Due {
    static final int UNKNOWN = -1, OUTSIDE = -2, STATE = -3, FULL = -4, NO = -5, NONE = -6;
    static final int LEAST = Integer.MIN_VALUE, MOST = Integer.MAX_VALUE;

    private static final int PROMISES = 29;
    private static final int[] ASKED = new int[PROMISES + 1];
    private static int asked;
    private static int wrong;

    private Due() { }

    static void is(int promise, String sentence, int got, int want) {
        ASKED[promise]++;
        asked++;
        if (got != want) {
            wrong++;
            System.out.println("promise " + promise + ", " + sentence + ": answered " + got + ", due is " + want);
        }
    }

    /** The answers of several calls, in the order in which they were made. */
    static void all(int promise, String sentence, int[] got, int... want) {
        is(promise, sentence + " (how many answers)", got.length, want.length);
        for (int i = 0; i < Math.min(got.length, want.length); i++) {
            is(promise, sentence + " (answer " + i + ")", got[i], want[i]);
        }
    }

    /** Each of the answers is the same refusal. */
    static void each(int promise, String sentence, int want, int... got) {
        for (int i = 0; i < got.length; i++) {
            is(promise, sentence + " (answer " + i + ")", got[i], want);
        }
    }

    static int[] of(int... answers) {
        return answers;
    }

    /** Ends the test; it fails too if one of the promises that it is for was not asked for. */
    static void finish(int... promises) {
        for (int promise : promises) {
            if (ASKED[promise] == 0) {
                wrong++;
                System.out.println("promise " + promise + " has no test here");
            }
        }
        System.out.println(asked + " answers, " + wrong + " not as due");
        if (wrong != 0) {
            System.exit(1);
        }
    }
}
