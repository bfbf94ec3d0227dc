/** Compares answers with those that are due, prints each that is not, and ends the test. */
final class Due {
    private final String test;
    private String sentence = "";
    private int asked;
    private int wrong;

    Due(String test) {
        this.test = test;
    }

    /** What follows tests these words of the document, which stand before each wrong answer. */
    void says(String words) {
        sentence = "'" + words + "': ";
    }

    void is(String call, long got, long want) {
        asked++;
        if (got != want) {
            wrong++;
            System.out.println(test + ": " + sentence + call + " answered " + got + ", due is " + want);
        }
    }

    void is(String call, boolean got, boolean want) {
        is(call, got ? 1 : 0, want ? 1 : 0);
    }

    void yes(String call, boolean got) {
        is(call, got, true);
    }

    void no(String call, boolean got) {
        is(call, got, false);
    }

    void row(String call, int[] got, int... want) {
        is(call + ", how many", got.length, want.length);
        for (int k = 0; k < Math.min(got.length, want.length); k++) {
            is(call + "[" + k + "]", got[k], want[k]);
        }
    }

    boolean hasWrong() {
        return wrong > 0;
    }

    void end() {
        System.out.println(wrong == 0 ? asked + " answers are as due" : wrong + " of " + asked + " answers are not as due");
        if (wrong != 0) {
            System.exit(1);
        }
    }
}
