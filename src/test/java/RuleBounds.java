/** The boundary cases of the promises 6 to 8 (limit, even, line), a test each. */
final class RuleBounds {
    private static final int LOWEST = Integer.MIN_VALUE;
    private static final int HIGHEST = Integer.MAX_VALUE;

    private RuleBounds() {
    }

    @Says(promise = 6, words = "The LIMIT, 0 .. 1000: what it was.")
    static void limitAsItWasAtBothEnds(Due due) {
        PairChoice x = new PairChoice();
        due.is("at first", x.limit(0), 1000);
        due.is("the least", x.limit(1), 0);
        due.is("one above", x.limit(999), 1);
        due.is("one below", x.limit(1000), 999);
        due.is("the greatest", x.limit(1000), 1000);
    }

    @Says(promise = 6, words = "0 .. 1000")
    static void leastLimitLetsNoKinBe(Due due) {
        PairChoice x = Herds.four();
        x.kin(1, 3, 1);
        x.limit(0);
        due.is("a set without kin", x.run(1), 1);
        due.pairs("the best of them", x, 0, 3);
        x.kin(0, 0, 1);
        x.run(1);
        due.pairs("kin with itself counts", x, 1, 2);
        x.kin(2, 2, 1);
        due.is("all have kin", x.run(1), 0);
    }

    @Says(promise = 6, words = "-2.")
    static void limitOutsideItsRange(Due due) {
        for (int limit : new int[] {-1, 1001, LOWEST, HIGHEST}) {
            Untouched.by(due, "limit " + limit, x -> x.limit(limit), -2);
        }
    }

    @Says(promise = 7, words = "The MOST of a FAMILY, 0 .. 12: what it was.")
    static void mostAsItWasAtBothEnds(Due due) {
        PairChoice x = new PairChoice();
        due.is("at first", x.even(12), 0);
        due.is("the greatest", x.even(11), 12);
        due.is("one below", x.even(1), 11);
        due.is("one", x.even(0), 1);
        due.is("none told", x.even(0), 0);
    }

    @Says(promise = 7, words = "0 .. 12")
    static void mostAtEachOfItsNumbers(Due due) {
        PairChoice x = Herds.plain(6, 6);
        for (int most = 0; most <= 12; most++) {
            x.even(most);
            for (int n = 1; n <= 6; n++) {
                boolean mayBe = most == 0 || 2 * n <= most;
                due.is("most " + most + ", " + n + " pairs", x.run(n), mayBe ? n : 0);
            }
        }
    }

    @Says(promise = 7, words = "-2.")
    static void mostOutsideItsRange(Due due) {
        for (int most : new int[] {-1, 13, LOWEST, HIGHEST}) {
            Untouched.by(due, "most " + most, x -> x.even(most), -2);
        }
    }

    @Says(promise = 8, words = "The LEAST of a FAMILY, 0 .. 12: what it was.")
    static void leastAsItWasAtBothEnds(Due due) {
        PairChoice x = new PairChoice();
        for (int family = 0; family < 8; family++) {
            due.is("at first", x.line(family, 12), 0);
            due.is("the greatest", x.line(family, 11), 12);
            due.is("one below", x.line(family, 0), 11);
            due.is("the least", x.line(family, family + 1), 0);
        }
        for (int family = 0; family < 8; family++) {
            due.is("its own", x.line(family, 0), family + 1);
        }
    }

    @Says(promise = 8, words = "0 .. 12")
    static void leastAtEachOfItsNumbers(Due due) {
        PairChoice x = Herds.plain(6, 6);
        for (int least = 0; least <= 12; least++) {
            x.line(0, least);
            for (int n = 1; n <= 6; n++) {
                due.is("least " + least + ", " + n + " pairs", x.run(n), 2 * n >= least ? n : 0);
            }
        }
    }

    @Says(promise = 8, words = "-1 no such FAMILY")
    static void leastOfNoSuchFamily(Due due) {
        for (int family : new int[] {-1, 8, 32, LOWEST, HIGHEST}) {
            Untouched.by(due, "family " + family, x -> x.line(family, 1), -1);
        }
    }

    @Says(promise = 8, words = "-1 no such FAMILY, -2.")
    static void leastOutsideItsRange(Due due) {
        for (int least : new int[] {-1, 13, LOWEST, HIGHEST}) {
            Untouched.by(due, "least " + least + " of the first", x -> x.line(0, least), -2);
            Untouched.by(due, "least " + least + " of the last", x -> x.line(7, least), -2);
        }
    }

    @Says(promise = 8, words = "-1 no such FAMILY, -2.")
    static void noSuchFamilyGoesBeforeItsLeast(Due due) {
        Untouched.by(due, "too great", x -> x.line(8, 13), -1);
        Untouched.by(due, "too small", x -> x.line(-1, -1), -1);
    }
}
