/** Counts the answers that are not as due, and ends a test by them. */
final class Due {
    private int wrong = 0;
    private int asked = 0;
    private String label = "";

    /** What the answers from here on belong to, told before each that is wrong. */
    void under(String newLabel) {
        label = newLabel;
    }

    void is(String call, long got, long want) {
        asked++;
        if (got != want) {
            wrong++;
            System.out.println(label + call + " answered " + got + ", due is " + want);
        }
    }

    void is(String call, boolean got, boolean want) {
        is(call, got ? 1 : 0, want ? 1 : 0);
    }

    /** The pairs as told one by one, and that there is no pair behind them. */
    void pairs(String call, PairChoice x, int... malesAndFemales) {
        int n = malesAndFemales.length / 2;
        for (int k = 0; k < n; k++) {
            is(call + " pairOf(" + k + ", 0)", x.pairOf(k, 0), malesAndFemales[2 * k]);
            is(call + " pairOf(" + k + ", 1)", x.pairOf(k, 1), malesAndFemales[2 * k + 1]);
        }
        is(call + " pairOf(" + n + ", 0)", x.pairOf(n, 0), -1);
    }

    /** The eggs of all pairs, told by eggs() and one by one. */
    void shares(String call, PairChoice x, int n, int... shares) {
        is(call + " eggs(" + n + ")", x.eggs(n), shares[0]);
        for (int k = 0; k < shares.length; k++) {
            is(call + " eggsOf(" + k + ")", x.eggsOf(k), shares[k]);
        }
        is(call + " eggsOf(" + shares.length + ")", x.eggsOf(shares.length), -1);
    }

    /** That there is no choice, by every call that would tell of it. */
    void noChoice(String call, PairChoice x) {
        for (int what = 0; what < 4; what++) {
            is(call + ": told(" + what + ")", x.told(what), -3);
        }
        is(call + ": pairOf(0, 0)", x.pairOf(0, 0), -1);
        is(call + ": pairOf(0, 1)", x.pairOf(0, 1), -1);
        is(call + ": eggs(1)", x.eggs(1), -3);
        is(call + ": eggsOf(0)", x.eggsOf(0), -1);
        is(call + ": backUp(0)", x.backUp(0), -1);
    }

    void end() {
        System.out.println(asked + " answers, " + wrong + " not as due");
        if (wrong != 0) {
            System.exit(1);
        }
    }
}
