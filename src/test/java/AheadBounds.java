/** The boundary cases of the promises 15 to 17 (test, ahead, after), a test each. */
final class AheadBounds {
    private static final int LOWEST = Integer.MIN_VALUE;
    private static final int HIGHEST = Integer.MAX_VALUE;

    private AheadBounds() {
    }

    @Says(promise = 15, words = "The ANIMAL whose test would tell most for N pairs (1 .. 6)")
    static void testForOnePairAndForSix(Due due) {
        PairChoice x = Herds.plain(6, 6);
        x.bar(0, 6, true);
        due.is("one pair", x.test(1, 1), 0);
        due.is("six pairs", x.test(6, 1), 0);
        x.worth(0, -1);
        // Male 1 has others of its worth, and so have the females; male 0 has to be much better to count.
        due.is("one pair, the first male behind", x.test(1, 1), 1);
        due.is("six pairs, all of them", x.test(6, 1), 0);
    }

    @Says(promise = 15, words = "for N pairs (1 .. 6)")
    static void testForPairsOutsideTheirRange(Due due) {
        for (int n : new int[] {0, 7, -1, LOWEST, HIGHEST}) {
            Untouched.by(due, "test(" + n + ", 5)", x -> x.test(n, 5), -2);
            Untouched.by(due, "test(" + n + ", 5), new", PairChoice::new, x -> x.test(n, 5), -2);
        }
    }

    @Says(promise = 15, words = "by d, 1 .. 10000")
    static void testByOneAndByTenThousand(Due due) {
        PairChoice x = new PairChoice();
        x.animal(1, 0, 0);
        x.animal(0, 0, 0);
        x.animal(0, 0, 0);
        // A male tells something if d is more than the males are apart, the only female never does.
        due.is("by the least, none apart", x.test(1, 1), 1);
        x.worth(2, -1);
        due.is("by the least, as much apart", x.test(1, 1), 0);
        due.is("by one more than they are apart", x.test(1, 2), 1);
        x.worth(1, 5000);
        x.worth(2, -4999);
        due.is("by as much as they are apart", x.test(1, 9999), 0);
        due.is("by the greatest, one more", x.test(1, 10000), 1);
        x.worth(2, -5000);
        due.is("by the greatest, as much apart", x.test(1, 10000), 0);
    }

    @Says(promise = 15, words = "1 .. 10000: WORTH d more or d less are as likely")
    static void testByDifferencesOutsideTheirRange(Due due) {
        for (int d : new int[] {0, 10001, -1, LOWEST, HIGHEST}) {
            Untouched.by(due, "test(1, " + d + ")", x -> x.test(1, d), -2);
        }
    }

    @Says(promise = 15, words = "the one with the greatest sum of what the BEST SETS of N have, WORTH being d more, and d less")
    static void testSumsTheMoreAndTheLess(Due due) {
        PairChoice x = Herds.four();
        x.worth(2, 31);
        // By 30: 0 makes 80 and 60, 1 makes 90 and 50, 2 makes 81 and 60, 3 makes 90 and 51.
        due.is("neither the more nor the less alone", x.test(1, 30), 2);
        PairChoice low = Herds.plain(3, 2);
        for (int a = 0; a < 5; a++) {
            low.worth(a, -10000);
        }
        low.bar(0, 3, true);
        low.bar(0, 4, true);
        // Sums far below nought: 0 is in no set and makes -20000 twice, the others -10000 and -20000.
        due.is("below nought", low.test(1, 10000), 1);
    }

    @Says(promise = 15, words = "(also beyond its range)")
    static void testBeyondTheRangeOfWorths(Due due) {
        for (int d : new int[] {1, 10000}) {
            PairChoice high = Herds.plain(1, 1);
            high.worth(0, 10000);
            due.is("above the greatest, by " + d, high.test(1, d), 0);
            PairChoice low = Herds.plain(1, 1);
            low.worth(1, -10000);
            due.is("below the least, by " + d, low.test(1, d), 0);
        }
        PairChoice two = Herds.plain(2, 1);
        two.worth(0, 10000);
        two.worth(1, 9990);
        // By 20: 0 makes 10020 and 9990, 1 makes 10010 and 10000, the female 10020 and 9980.
        due.is("both above the greatest", two.test(1, 20), 0);
        due.is("the worth stays as it is", two.worth(0, 0), 10000);
        due.is("the worth stays as it is", two.worth(1, 0), 9990);
    }

    @Says(promise = 15, words = "of several the least")
    static void testOfSeveralTheLeast(Due due) {
        due.is("all alike, in one set", Herds.plain(6, 6).test(6, 7), 0);
        due.is("all alike, in many sets", Herds.plain(6, 6).test(3, 7), 0);
        PairChoice x = Herds.plain(3, 3);
        x.bar(0, 3, true);
        x.bar(0, 4, true);
        x.bar(0, 5, true);
        due.is("the least of those that are in a set", x.test(1, 7), 1);
        PairChoice one = Herds.plain(2, 1);
        one.bar(0, 2, true);
        due.is("one that is in no set, of several alike", one.test(1, 7), 0);
    }

    @Says(promise = 15, words = "-3 no SET of N MAY BE")
    static void testWithNoSetThatMayBe(Due due) {
        Untouched.by(due, "a pair more than there is", x -> x.test(4, 5), -3);
        Untouched.by(due, "six pairs", x -> x.test(6, 5), -3);
        Untouched.by(due, "nobody", PairChoice::new, x -> x.test(1, 1), -3);
        PairChoice x = Herds.plain(2, 2);
        due.is("as many as there are", x.test(2, 1), 0);
        x.line(7, 1);
        due.is("none by the rules", x.test(1, 1), -3);
        x.line(7, 0);
        due.is("the rule is gone", x.test(1, 1), 0);
    }

    @Says(promise = 15, words = "-2; -3 no SET of N MAY BE")
    static void outsideGoesBeforeNoSet(Due due) {
        Untouched.by(due, "d too small", x -> x.test(4, 0), -2);
        Untouched.by(due, "d too great", x -> x.test(4, 10001), -2);
        Untouched.by(due, "too many pairs", x -> x.test(7, 5), -2);
    }

    @Says(promise = 16, words = "Years ahead, 1 .. 20")
    static void oneYearAheadAndTwenty(Due due) {
        PairChoice x = Herds.plain(6, 6);
        due.is("one", x.ahead(1, 8, 2154L, 1), 12);
        due.is("its year", x.after(0, 0), 12);
        due.is("no second one", x.after(1, 0), -1);
        due.is("nineteen", x.ahead(19, 8, 2154L, 1), 12);
        // By seed 2154 the last animal's last year has 7, and nobody any other below 17.
        due.is("twenty", x.ahead(20, 8, 2154L, 1), 11);
        due.is("the last year but one", x.after(18, 0), 12);
        due.is("the last year", x.after(19, 0), 11);
    }

    @Says(promise = 16, words = "Years ahead, 1 .. 20")
    static void yearsOutsideTheirRange(Due due) {
        for (int years : new int[] {0, 21, -1, LOWEST, HIGHEST}) {
            Untouched.by(due, "years " + years, x -> x.ahead(years, 500, 1L, 1), -2);
            Untouched.by(due, "years " + years + ", new", PairChoice::new, x -> x.ahead(years, 500, 1L, 1), -2);
        }
    }

    @Says(promise = 16, words = "is below the risk")
    static void fateBelowTheRiskAndAsGreat(Due due) {
        PairChoice x = Herds.plain(6, 6);
        due.is("as great as the risk", x.ahead(20, 7, 2154L, 1), 12);
        due.is("below the risk", x.ahead(20, 8, 2154L, 1), 11);
        due.is("the next is as great", x.ahead(20, 17, 2154L, 1), 11);
        due.is("the next is below", x.ahead(20, 18, 2154L, 1), 10);
    }

    @Says(promise = 16, words = "the risk (0 .. 1000)")
    static void noRiskAndTheGreatest(Due due) {
        PairChoice one = Herds.plain(1, 0);
        // Seed 986 gives the first animal 0 in the first year, seed 412 gives it 999.
        due.is("no risk at 0", one.ahead(1, 0, 986L, 1), 1);
        due.is("a risk of 1 at 0", one.ahead(1, 1, 986L, 1), 0);
        due.is("a risk of 999 at 999", one.ahead(1, 999, 412L, 1), 1);
        due.is("the greatest at 999", one.ahead(1, 1000, 412L, 1), 0);
        PairChoice x = Herds.plain(6, 6);
        long[] seeds = {0L, -1L, 1L, 986L, Long.MIN_VALUE, Long.MAX_VALUE, 0x9E3779B97F4A7C15L};
        for (long seed : seeds) {
            due.is("no risk in all years, seed " + seed, x.ahead(20, 0, seed, 1), 12);
            due.is("the greatest in one year, seed " + seed, x.ahead(1, 1000, seed, 1), 0);
        }
    }

    @Says(promise = 16, words = "the risk (0 .. 1000)")
    static void riskOutsideItsRange(Due due) {
        for (int risk : new int[] {-1, 1001, LOWEST, HIGHEST}) {
            Untouched.by(due, "risk " + risk, x -> x.ahead(2, risk, 1L, 1), -2);
        }
    }

    /** The animals come one by one, so that each one's own number of the first year is found. */
    private static void fatesOfTheFirstYear(Due due, long seed, int... fates) {
        PairChoice x = new PairChoice();
        for (int a = 0; a < fates.length; a++) {
            x.animal(0, 0, 0);
            for (int risk = fates[a]; risk <= fates[a] + 1; risk++) {
                int alive = 0;
                for (int b = 0; b <= a; b++) {
                    alive += fates[b] >= risk ? 1 : 0;
                }
                due.is("seed " + seed + ", animal " + a + ", risk " + risk, x.ahead(1, risk, seed, 1), alive);
            }
        }
    }

    @Says(promise = 16, words = "with z = (seed + 16 y + a + 1) * 0x9E3779B97F4A7C15, z = (z ^ z >>> 29) * 0xBF58476D1CE4E5B9 (longs run over)")
    static void longsRunOverInTheFirstYear(Due due) {
        fatesOfTheFirstYear(due, 0L, 155, 257, 293, 722, 434, 758, 605, 650, 337, 426, 824, 110);
        fatesOfTheFirstYear(due, -1L, 0, 155, 257, 293, 722, 434, 758, 605, 650, 337, 426, 824);
        fatesOfTheFirstYear(due, -2L, 278, 0, 155, 257, 293, 722, 434, 758, 605, 650, 337, 426);
        fatesOfTheFirstYear(due, Long.MAX_VALUE, 954, 849, 563, 599, 416, 480, 452, 911, 344, 643, 120, 870);
        fatesOfTheFirstYear(due, Long.MAX_VALUE - 4, 122, 778, 214, 972, 954, 849, 563, 599, 416, 480, 452, 911);
        fatesOfTheFirstYear(due, Long.MIN_VALUE, 849, 563, 599, 416, 480, 452, 911, 344, 643, 120, 870, 416);
    }

    private static void aliveBehindEachYear(Due due, long seed, int risk, int... alive) {
        PairChoice x = Herds.plain(6, 6);
        due.is("seed " + seed + ", at the end", x.ahead(20, risk, seed, 1), alive[19]);
        for (int y = 0; y < 20; y++) {
            due.is("seed " + seed + ", behind year " + y, x.after(y, 0), alive[y]);
        }
    }

    @Says(promise = 16, words = "(longs run over): how many are alive at the end")
    static void longsRunOverWithinTheYears(Due due) {
        aliveBehindEachYear(due, 0L, 60, 12, 12, 11, 9, 9, 6, 6, 6, 6, 6, 6, 5, 5, 5, 5, 5, 4, 4, 3, 3);
        aliveBehindEachYear(due, -100L, 60, 11, 10, 9, 9, 8, 8, 7, 7, 6, 5, 5, 3, 3, 3, 3, 3, 3, 3, 3, 3);
        aliveBehindEachYear(due, Long.MAX_VALUE - 149, 60, 12, 9, 9, 9, 9, 8, 8, 8, 7, 7, 7, 7, 7, 7, 6, 6, 5, 4, 3, 3);
        aliveBehindEachYear(due, Long.MAX_VALUE, 100, 12, 12, 11, 11, 11, 9, 8, 6, 5, 3, 3, 2, 1, 1, 1, 1, 0, 0, 0, 0);
        aliveBehindEachYear(due, Long.MIN_VALUE, 100, 12, 12, 11, 10, 10, 8, 7, 5, 5, 3, 3, 2, 1, 1, 1, 1, 0, 0, 0, 0);
    }

    @Says(promise = 16, words = "each ANIMAL a that is alive yet dies")
    static void theDeadStayDead(Due due) {
        PairChoice x = Herds.plain(1, 0);
        // By seed 7 its first three years have 650, 779 and more: one year alone is enough.
        due.is("dead behind the first year", x.ahead(2, 651, 7L, 1), 0);
        due.is("behind year 0", x.after(0, 0), 0);
        due.is("and behind year 1", x.after(1, 0), 0);
        due.is("nobody to die", new PairChoice().ahead(20, 1000, 7L, 6), 0);
    }

    @Says(promise = 16, words = "Behind each year the BEST SET of N (1 .. 6) among those alive is looked for.")
    static void setsOfOnePairAndOfSixAhead(Due due) {
        PairChoice x = Herds.plain(6, 6);
        for (int a = 0; a < 12; a++) {
            x.worth(a, 1 << a % 6);
        }
        x.ahead(20, 8, 2154L, 1);
        due.is("one pair among all", x.after(18, 2), 64);
        // The last animal, a female worth 32, dies in the last year.
        due.is("one pair without the last", x.after(19, 2), 48);
        due.is("one pair may be", x.after(19, 1), 1);
        x.ahead(20, 8, 2154L, 6);
        due.is("six pairs among all", x.after(18, 2), 126);
        due.is("six pairs may be", x.after(18, 1), 1);
        due.is("no six pairs of eleven", x.after(19, 1), 0);
        due.is("and no sum", x.after(19, 2), 0);
        due.is("eleven alive", x.after(19, 0), 11);
    }

    @Says(promise = 16, words = "N (1 .. 6) among those alive")
    static void pairsAheadOutsideTheirRange(Due due) {
        for (int n : new int[] {0, 7, -1, LOWEST, HIGHEST}) {
            Untouched.by(due, "n " + n, x -> x.ahead(2, 500, 1L, n), -2);
        }
    }

    @Says(promise = 16, words = "(No ANIMAL, nor THE CHOICE, is another one for that.)")
    static void lookingAheadLeavesAnimalsAndChoice(Due due) {
        // The same look ahead as the one that the herd has had, so all that can be read stays the same.
        Untouched.by(due, "ahead(3, 300, 7, 1)", x -> x.ahead(3, 300, 7L, 1), 3);
        PairChoice x = Herds.busy();
        due.is("all die", x.ahead(20, 1000, 1L, 6), 0);
        due.pairs("the choice", x, 0, 4, 1, 3);
        due.is("its worths", x.told(0), 120);
        due.is("its sets", x.told(3), Herds.busy().told(3));
        due.is("its eggs", x.eggsOf(0), Herds.busy().eggsOf(0));
        due.is("its stand-in", x.backUp(0), 2);
        due.is("all are there", x.run(3), 3);
        due.is("and the next number", x.animal(0, 0, 0), 7);
    }

    @Says(promise = 17, words = "Behind year y of the last ahead()")
    static void lastAheadAlone(Due due) {
        PairChoice x = Herds.plain(6, 6);
        x.ahead(20, 1000, 1L, 1);
        x.ahead(2, 0, 1L, 1);
        due.is("the first year", x.after(0, 0), 12);
        due.is("the last year", x.after(1, 0), 12);
        due.is("a year of the one before", x.after(2, 0), -1);
        due.is("a refused one", x.ahead(20, 1001, 1L, 1), -2);
        due.is("leaves the years", x.after(1, 0), 12);
        due.is("and their number", x.after(2, 0), -1);
    }

    @Says(promise = 17, words = "of the last ahead()")
    static void whatWasFoundStaysBehindAChange(Due due) {
        PairChoice x = Herds.plain(1, 1);
        x.worth(0, 5);
        x.ahead(1, 0, 1L, 1);
        x.worth(0, 6);
        x.animal(0, 10000, 0);
        x.bar(0, 1, true);
        due.is("how many were alive", x.after(0, 0), 2);
        due.is("some set", x.after(0, 1), 1);
        due.is("the sum of the best", x.after(0, 2), 5);
        x.run(1);
        x.test(1, 1);
        due.is("the sum of the best behind a run and a test", x.after(0, 2), 5);
    }

    @Says(promise = 17, words = "what = 0 how many were alive")
    static void aliveFromAllToNone(Due due) {
        PairChoice x = Herds.plain(6, 6);
        x.ahead(20, 0, 1L, 6);
        due.is("all, behind the first year", x.after(0, 0), 12);
        due.is("all, behind the last year", x.after(19, 0), 12);
        x.ahead(20, 1000, 1L, 6);
        due.is("none, behind the first year", x.after(0, 0), 0);
        due.is("none, behind the last year", x.after(19, 0), 0);
    }

    @Says(promise = 17, words = "1 whether some SET MAY BE among them (1 or 0)")
    static void someSetOrNone(Due due) {
        PairChoice x = Herds.plain(1, 1);
        x.ahead(1, 0, 1L, 1);
        due.is("one pair", x.after(0, 1), 1);
        x.ahead(1, 0, 1L, 2);
        due.is("two pairs", x.after(0, 1), 0);
        x.bar(0, 1, true);
        x.ahead(1, 0, 1L, 1);
        due.is("barred", x.after(0, 1), 0);
        due.is("though both are alive", x.after(0, 0), 2);
        x.bar(0, 1, false);
        // By seed 1 the first year has 257 for the male and 293 for the female.
        x.ahead(1, 258, 1L, 1);
        due.is("the female alone", x.after(0, 1), 0);
        due.is("one alive", x.after(0, 0), 1);
        x.ahead(1, 257, 1L, 1);
        due.is("both, just so", x.after(0, 1), 1);
    }

    @Says(promise = 17, words = "2 the sum of WORTHS of the best (0 without)")
    static void sumOfTheBestOrNought(Due due) {
        PairChoice x = Herds.plain(6, 6);
        for (int a = 0; a < 12; a++) {
            x.worth(a, -10000);
        }
        x.ahead(1, 0, 1L, 6);
        due.is("the least that can be", x.after(0, 2), -120000);
        due.is("is a set", x.after(0, 1), 1);
        x.ahead(1, 1000, 1L, 6);
        due.is("without", x.after(0, 2), 0);
        due.is("is none", x.after(0, 1), 0);
        for (int a = 0; a < 12; a++) {
            x.worth(a, a < 6 ? 10000 : -10000);
        }
        x.ahead(1, 0, 1L, 6);
        due.is("a sum of nought", x.after(0, 2), 0);
        due.is("is a set too", x.after(0, 1), 1);
        for (int a = 0; a < 12; a++) {
            x.worth(a, 10000);
        }
        x.ahead(1, 0, 1L, 6);
        due.is("the greatest that can be", x.after(0, 2), 120000);
    }

    @Says(promise = 17, words = "-1 no such year")
    static void noSuchYear(Due due) {
        for (int year : new int[] {-1, 3, 19, 20, LOWEST, HIGHEST}) {
            for (int what = 0; what < 3; what++) {
                int asked = what;
                Untouched.by(due, "year " + year, x -> x.after(year, asked), -1);
            }
        }
        Untouched.by(due, "no ahead() yet", PairChoice::new, x -> x.after(0, 0), -1);
        PairChoice x = Herds.plain(1, 1);
        x.ahead(20, 0, 1L, 1);
        due.is("the last year of twenty", x.after(19, 0), 2);
        due.is("behind twenty years", x.after(20, 0), -1);
    }

    @Says(promise = 17, words = "-2 another what")
    static void afterAnotherWhat(Due due) {
        for (int what : new int[] {-1, 3, LOWEST, HIGHEST}) {
            Untouched.by(due, "what " + what, x -> x.after(0, what), -2);
            Untouched.by(due, "what " + what + " of the last year", x -> x.after(2, what), -2);
        }
    }

    @Says(promise = 17, words = "-1 no such year, -2 another what")
    static void noSuchYearGoesBeforeAnotherWhat(Due due) {
        Untouched.by(due, "behind the last year", x -> x.after(3, 3), -1);
        Untouched.by(due, "before the first year", x -> x.after(-1, -1), -1);
        Untouched.by(due, "no ahead() yet", PairChoice::new, x -> x.after(0, 3), -1);
    }
}
