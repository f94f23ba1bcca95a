/** The boundary cases of the promises 12 and 13 (eggs, eggsOf), a test each. */
final class EggBounds {
    private static final int LOWEST = Integer.MIN_VALUE;
    private static final int HIGHEST = Integer.MAX_VALUE;

    private EggBounds() {
    }

    /** Pairs whose males are worth so much, and whose females nothing. */
    private static PairChoice pairsWorth(int... worths) {
        PairChoice x = Herds.plain(worths.length, worths.length);
        for (int k = 0; k < worths.length; k++) {
            x.worth(k, worths[k]);
        }
        x.run(worths.length);
        return x;
    }

    @Says(promise = 12, words = "So many eggs, 0 .. 100,000, are shared among the PAIRS")
    static void noEggsAndTheMost(Due due) {
        PairChoice x = pairsWorth(0, 0, 0);
        due.shares("the most", x, 100000, 33334, 33333, 33333);
        due.shares("none, in the place of those before", x, 0, 0, 0, 0);
        due.shares("one", x, 1, 1, 0, 0);
        due.shares("one pair gets all", pairsWorth(7), 100000, 100000);
    }

    @Says(promise = 12, words = "a PAIR has as many POINTS as its sum of WORTHS is above that of the least one, and 1 more")
    static void oneMorePointThanAboveTheLeast(Due due) {
        due.shares("all alike", pairsWorth(-10000, -10000), 10, 5, 5);
        due.shares("1 and 2", pairsWorth(0, 1), 9, 3, 6);
        due.shares("2 and 1", pairsWorth(1, 0), 9, 6, 3);
        due.shares("below nought", pairsWorth(-10000, -9999, -9998), 6, 1, 2, 3);
        due.shares("the least in the middle", pairsWorth(5, 3, 4), 6, 3, 1, 2);
        PairChoice x = pairsWorth(1, 0);
        x.worth(2, -3);
        x.run(2);
        due.shares("the females count", x, 4, 1, 3);
    }

    @Says(promise = 12, words = "each gets eggs by POINTS by the sum of all POINTS, rounded down")
    static void greatestPointsTimesTheMostEggs(Due due) {
        PairChoice two = Herds.plain(2, 2);
        two.worth(0, -10000);
        two.worth(2, -10000);
        two.worth(1, 10000);
        two.worth(3, 10000);
        two.run(2);
        // 1 and 40001 points: 2 and 19996 of 40002, 99997 and 20006 of 40002.
        due.shares("beyond what an int holds", two, 100000, 2, 99998);
        PairChoice six = Herds.plain(6, 6);
        for (int a = 0; a < 12; a++) {
            six.worth(a, a % 6 == 5 ? -10000 : 10000);
        }
        six.run(6);
        // Five of 40001 points and one of 1, 200006 in all: 19999 each with the greater rests.
        due.shares("six pairs", six, 100000, 20000, 20000, 20000, 20000, 20000, 0);
    }

    @Says(promise = 12, words = "and what is left goes one by one to those with the greatest rests")
    static void whatIsLeftGoesByTheRests(Due due) {
        PairChoice x = pairsWorth(2, 1, 0);
        due.shares("3 2 1 of 6: nothing left", x, 6, 3, 2, 1);
        due.shares("rests 3 2 1: one left", x, 1, 1, 0, 0);
        due.shares("rests 3 2 1: three and one more", x, 7, 4, 2, 1);
        due.shares("rests 0 4 2: one left", x, 2, 1, 1, 0);
        due.shares("rests 0 2 4: one left", x, 4, 2, 1, 1);
        due.shares("rests 3 4 5: two left", x, 5, 2, 2, 1);
        PairChoice rising = pairsWorth(0, 1, 2);
        due.shares("rests 5 4 3: two left", rising, 5, 1, 2, 2);
        due.shares("rests 1 2 3: one left", rising, 1, 0, 0, 1);
    }

    @Says(promise = 12, words = "of the same ones the lesser PAIR first")
    static void lesserPairFirstAmongEqualRests(Due due) {
        PairChoice x = pairsWorth(0, 0, 0, 0, 0, 0);
        due.shares("one left", x, 1, 1, 0, 0, 0, 0, 0);
        due.shares("five left", x, 5, 1, 1, 1, 1, 1, 0);
        due.shares("none left", x, 6, 1, 1, 1, 1, 1, 1);
        due.shares("five left again", x, 11, 2, 2, 2, 2, 2, 1);
        PairChoice later = pairsWorth(0, 2, 2);
        // 1, 3, 3 of 7: the rests of 3 are 3, 2, 2 and those of 4 are 4, 5, 5.
        due.shares("equal ones behind a greater", later, 3, 1, 1, 1);
        due.shares("equal ones before a lesser", later, 4, 0, 2, 2);
        due.shares("one for two equal ones", later, 1, 0, 1, 0);
    }

    @Says(promise = 12, words = "how many PAIR 0 has")
    static void answersTheEggsOfTheFirstPair(Due due) {
        due.is("the least pair first", pairsWorth(0, 99).eggs(101), 1);
        due.is("the least pair last", pairsWorth(99, 0).eggs(101), 100);
        due.is("none for it", pairsWorth(0, 99).eggs(1), 0);
    }

    @Says(promise = 12, words = "how many PAIR 0 has. -2")
    static void eggsOutsideTheirRange(Due due) {
        for (int n : new int[] {-1, 100001, LOWEST, HIGHEST}) {
            Untouched.by(due, "eggs(" + n + ")", x -> x.eggs(n), -2);
            Untouched.by(due, "eggs(" + n + "), no choice", Herds::withoutChoice, x -> x.eggs(n), -2);
        }
    }

    @Says(promise = 12, words = "-3 there is no CHOICE")
    static void eggsWithoutAChoice(Due due) {
        for (int n : new int[] {0, 1, 100000}) {
            Untouched.by(due, "eggs(" + n + ")", Herds::withoutChoice, x -> x.eggs(n), -3);
            Untouched.by(due, "eggs(" + n + "), new", PairChoice::new, x -> x.eggs(n), -3);
        }
    }

    @Says(promise = 12, words = "-2; -3 there is no CHOICE")
    static void outsideGoesBeforeNoChoice(Due due) {
        Untouched.by(due, "too few", Herds::withoutChoice, x -> x.eggs(-1), -2);
        Untouched.by(due, "too many", Herds::withoutChoice, x -> x.eggs(100001), -2);
    }

    @Says(promise = 13, words = "The eggs of PAIR k by the last eggs()")
    static void lastEggsAlone(Due due) {
        PairChoice x = pairsWorth(0, 1, 2, 3, 4, 5);
        x.eggs(100000);
        x.eggs(21);
        for (int k = 0; k < 6; k++) {
            due.is("pair " + k, x.eggsOf(k), k + 1);
        }
        x.eggs(0);
        for (int k = 0; k < 6; k++) {
            due.is("none any more, pair " + k, x.eggsOf(k), 0);
        }
    }

    @Says(promise = 13, words = "since THE CHOICE was made (0 without)")
    static void noEggsBeforeTheFirstSharing(Due due) {
        PairChoice x = pairsWorth(0, 0, 0, 0, 0, 0);
        for (int k = 0; k < 6; k++) {
            due.is("no eggs() yet, pair " + k, x.eggsOf(k), 0);
        }
        x.eggs(60);
        x.run(6);
        for (int k = 0; k < 6; k++) {
            due.is("the same choice made anew, pair " + k, x.eggsOf(k), 0);
        }
        x.eggs(60);
        x.run(1);
        due.is("a smaller choice", x.eggsOf(0), 0);
        x.eggs(60);
        x.run(2);
        due.is("a greater choice", x.eggsOf(0), 0);
        due.is("a greater choice", x.eggsOf(1), 0);
        x.eggs(60);
        x.limit(999);
        x.run(2);
        due.is("a choice behind a change", x.eggsOf(1), 0);
    }

    @Says(promise = 13, words = "-1 no such PAIR")
    static void eggsOfNoSuchPair(Due due) {
        for (int k : new int[] {-1, 2, 5, 6, 32, LOWEST, HIGHEST}) {
            Untouched.by(due, "pair " + k, x -> x.eggsOf(k), -1);
        }
        Untouched.by(due, "no choice", Herds::withoutChoice, x -> x.eggsOf(0), -1);
        PairChoice x = pairsWorth(0, 0);
        x.eggs(10);
        due.is("the last pair", x.eggsOf(1), 5);
        due.is("behind the last", x.eggsOf(2), -1);
        x.run(3);
        due.is("behind a run without a set", x.eggsOf(0), -1);
    }
}
