/** Counts the answers that are not as due, and ends a test by them. */
final class Due {
    private int wrong = 0;
    private int asked = 0;

    void is(String call, long got, long want) {
        asked++;
        if (got != want) {
            wrong++;
            System.out.println(call + " answered " + got + ", due is " + want);
        }
    }

    void is(String call, boolean got, boolean want) {
        is(call, got ? 1 : 0, want ? 1 : 0);
    }

    /** The pairs as told one by one, and that there is no pair behind them. */
    void pairs(String call, PairChoice x, int... malesAndFemales) {
        int n = malesAndFemales.length / 2;
        for (int k = 0; k < n; k++) {
            is(call + " pairOf(" + k + ", 0)", x.pairOf(k, 0), malesAndFemales[2 * k]);
            is(call + " pairOf(" + k + ", 1)", x.pairOf(k, 1), malesAndFemales[2 * k + 1]);
        }
        is(call + " pairOf(" + n + ", 0)", x.pairOf(n, 0), -1);
    }

    void end() {
        System.out.println(asked + " answers, " + wrong + " not as due");
        if (wrong != 0) {
            System.exit(1);
        }
    }
}
