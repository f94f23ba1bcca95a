/** The boundary cases of the promises 9 to 11 and 14 (run, pairOf, told, backUp), a test each. */
final class ChoiceBounds {
    private static final int LOWEST = Integer.MIN_VALUE;
    private static final int HIGHEST = Integer.MAX_VALUE;

    private ChoiceBounds() {
    }

    @Says(promise = 9, words = "The BEST SET of N, 1 .. 6, becomes THE CHOICE: N")
    static void runOfOnePairAndOfSix(Due due) {
        PairChoice x = Herds.plain(6, 6);
        due.is("the fewest", x.run(1), 1);
        due.pairs("one pair", x, 0, 6);
        due.is("the most", x.run(6), 6);
        due.pairs("six pairs", x, 0, 6, 1, 7, 2, 8, 3, 9, 4, 10, 5, 11);
        due.is("the smallest herd", Herds.plain(1, 1).run(1), 1);
    }

    @Says(promise = 9, words = "0 if none MAY BE")
    static void runWithNoSetThatMayBe(Due due) {
        PairChoice x = Herds.plain(2, 2);
        due.is("a pair more than there is", x.run(3), 0);
        due.noChoice("run(3)", x);
        due.is("as many as there are", x.run(2), 2);
        x.line(1, 1);
        due.is("by the least", x.run(2), 0);
        due.noChoice("by the least", x);
        x.line(1, 0);
        x.even(1);
        due.is("by the most", x.run(1), 0);
        due.noChoice("by the most", x);
        x.even(0);
        x.limit(0);
        for (int a = 0; a < 4; a++) {
            x.kin(a, a, 1);
        }
        due.is("by the limit", x.run(2), 0);
        due.noChoice("by the limit", x);
        x.limit(1000);
        due.is("none in the way", x.run(2), 2);
        x.bar(0, 2, true);
        x.bar(0, 3, true);
        due.is("by bars", x.run(2), 0);
        due.noChoice("by bars", x);
    }

    @Says(promise = 9, words = "0 if none MAY BE. -2.")
    static void runOutsideItsRange(Due due) {
        for (int n : new int[] {0, 7, -1, 12, LOWEST, HIGHEST}) {
            Untouched.by(due, "run(" + n + ")", x -> x.run(n), -2);
            Untouched.by(due, "run(" + n + ") of nobody", PairChoice::new, x -> x.run(n), -2);
        }
    }

    @Says(promise = 10, words = "The male (which = 0) or female (1) of PAIR k.")
    static void maleAndFemaleOfTheFirstAndTheLastPair(Due due) {
        PairChoice x = Herds.plain(6, 6);
        x.run(6);
        due.is("the first male", x.pairOf(0, 0), 0);
        due.is("the first female", x.pairOf(0, 1), 6);
        due.is("the last male", x.pairOf(5, 0), 5);
        due.is("the last female", x.pairOf(5, 1), 11);
    }

    @Says(promise = 10, words = "-1 no such PAIR")
    static void pairOfNoSuchPair(Due due) {
        for (int k : new int[] {-1, 2, 5, 6, 32, LOWEST, HIGHEST}) {
            Untouched.by(due, "male of pair " + k, x -> x.pairOf(k, 0), -1);
            Untouched.by(due, "female of pair " + k, x -> x.pairOf(k, 1), -1);
        }
        Untouched.by(due, "no choice", Herds::withoutChoice, x -> x.pairOf(0, 0), -1);
        PairChoice x = Herds.plain(6, 6);
        x.run(6);
        due.is("behind six pairs", x.pairOf(6, 0), -1);
        x.run(5);
        due.is("a pair of the run before", x.pairOf(5, 0), -1);
    }

    @Says(promise = 10, words = "-2 another which")
    static void pairOfAnotherWhich(Due due) {
        for (int which : new int[] {-1, 2, LOWEST, HIGHEST}) {
            Untouched.by(due, "which " + which, x -> x.pairOf(0, which), -2);
            Untouched.by(due, "which " + which + " of the last", x -> x.pairOf(1, which), -2);
        }
    }

    @Says(promise = 10, words = "-1 no such PAIR, -2 another which")
    static void noSuchPairGoesBeforeAnotherWhich(Due due) {
        Untouched.by(due, "behind the last", x -> x.pairOf(2, 2), -1);
        Untouched.by(due, "before the first", x -> x.pairOf(-1, -1), -1);
        Untouched.by(due, "no choice", Herds::withoutChoice, x -> x.pairOf(0, 2), -1);
    }

    @Says(promise = 11, words = "what = 0 the sum of WORTHS")
    static void toldWorthsAtBothEnds(Due due) {
        PairChoice x = Herds.plain(6, 6);
        x.run(6);
        due.is("nought", x.told(0), 0);
        for (int a = 0; a < 12; a++) {
            x.worth(a, -10000);
        }
        x.run(6);
        due.is("the least that can be", x.told(0), -120000);
        for (int a = 0; a < 12; a++) {
            x.worth(a, 10000);
        }
        x.run(6);
        due.is("the greatest that can be", x.told(0), 120000);
        x.run(1);
        due.is("of one pair", x.told(0), 20000);
    }

    @Says(promise = 11, words = "1 the sum of KIN, as told at SET")
    static void toldKinAtBothEnds(Due due) {
        PairChoice x = Herds.plain(6, 6);
        x.run(6);
        due.is("nought", x.told(1), 0);
        x.kin(11, 11, 1);
        x.run(6);
        due.is("the last with itself", x.told(1), 1);
        x.kin(10, 11, 1);
        x.run(6);
        due.is("the last two, both ways", x.told(1), 3);
        x.run(1);
        due.is("none of those not chosen", x.told(1), 0);
        for (int a = 0; a < 12; a++) {
            for (int b = 0; b <= a; b++) {
                x.kin(a, b, 1000);
            }
        }
        x.run(6);
        due.is("the greatest that can be", x.told(1), 144000);
    }

    @Says(promise = 11, words = "2 how many PAIRS")
    static void toldPairsOfOneAndOfSix(Due due) {
        PairChoice x = Herds.plain(6, 6);
        x.run(1);
        due.is("the fewest", x.told(2), 1);
        x.run(6);
        due.is("the most", x.told(2), 6);
    }

    @Says(promise = 11, words = "3 how many SETS of as many pairs MAY BE")
    static void toldSetsFromOneToTheMost(Due due) {
        PairChoice x = Herds.plain(6, 6);
        int[] sets = {36, 225, 400, 225, 36, 1};
        for (int n = 1; n <= 6; n++) {
            x.run(n);
            due.is(n + " pairs", x.told(3), sets[n - 1]);
        }
        x.bar(0, 6, true);
        x.run(1);
        due.is("one pair is barred", x.told(3), 35);
        x.run(2);
        due.is("two can be paired in another way", x.told(3), 225);
        x.line(1, 1);
        due.is("none may be", x.run(2), 0);
        PairChoice uneven = Herds.plain(11, 1);
        uneven.run(1);
        due.is("eleven males", uneven.told(3), 11);
    }

    @Says(promise = 11, words = "-2 another what")
    static void toldAnotherWhat(Due due) {
        for (int what : new int[] {-1, 4, LOWEST, HIGHEST}) {
            Untouched.by(due, "what " + what, x -> x.told(what), -2);
            Untouched.by(due, "what " + what + ", no choice", Herds::withoutChoice, x -> x.told(what), -2);
        }
    }

    @Says(promise = 11, words = "-3 there is none")
    static void toldWithoutAChoice(Due due) {
        for (int what = 0; what < 4; what++) {
            int asked = what;
            Untouched.by(due, "what " + what, Herds::withoutChoice, x -> x.told(asked), -3);
            Untouched.by(due, "what " + what + ", new", PairChoice::new, x -> x.told(asked), -3);
        }
    }

    @Says(promise = 11, words = "-2 another what; -3 there is none")
    static void anotherWhatGoesBeforeNoChoice(Due due) {
        Untouched.by(due, "too great", Herds::withoutChoice, x -> x.told(4), -2);
        Untouched.by(due, "too small", Herds::withoutChoice, x -> x.told(-1), -2);
    }

    @Says(promise = 14, words = "not in THE CHOICE")
    static void backUpIsNotChosenAlready(Due due) {
        PairChoice x = Herds.plain(3, 3);
        x.worth(0, 9);
        x.worth(1, 9);
        x.worth(2, -10000);
        x.run(2);
        due.pairs("the choice", x, 0, 3, 1, 4);
        due.is("for the first", x.backUp(0), 2);
        due.is("for the last", x.backUp(1), 2);
    }

    @Says(promise = 14, words = "with the females as they are: not in THE CHOICE, not BARRED from the PAIR's female")
    static void backUpIsBarredFromNoFemaleButOthers(Due due) {
        PairChoice x = Herds.plain(3, 2);
        x.bar(2, 3, true);
        x.run(2);
        due.pairs("the choice", x, 0, 3, 1, 4);
        due.is("barred from this female, though others could change", x.backUp(0), -3);
        due.is("not from that one", x.backUp(1), 2);
    }

    @Says(promise = 14, words = "so that the SET with it in the other one's place keeps the LIMIT")
    static void backUpAtTheLimitAndBeyond(Due due) {
        PairChoice x = Herds.plain(3, 2);
        x.limit(10);
        x.worth(0, 1);
        x.worth(1, 1);
        x.kin(2, 2, 160);
        x.run(2);
        due.is("as much as the limit lets it", x.backUp(0), 2);
        x.kin(2, 2, 161);
        x.run(2);
        due.is("one beyond", x.backUp(0), -3);
        x.kin(2, 2, 0);
        x.kin(0, 2, 81);
        x.run(2);
        due.is("kin with the one that goes", x.backUp(0), 2);
        due.is("kin with the one that stays", x.backUp(1), -3);
        x.kin(0, 2, 0);
        x.kin(2, 4, 81);
        x.run(2);
        due.is("kin with another pair's female", x.backUp(0), -3);
    }

    @Says(promise = 14, words = "the MOST and the LEAST")
    static void backUpAtTheMostAndBeyond(Due due) {
        PairChoice x = new PairChoice();
        int[] families = {0, 1, 2, 2, 3};
        for (int a = 0; a < 5; a++) {
            x.animal(a < 3 ? 0 : 1, -a, families[a]);
        }
        x.even(2);
        x.run(2);
        due.pairs("the choice", x, 0, 3, 1, 4);
        due.is("as many as the most", x.backUp(0), 2);
        x.even(1);
        x.run(2);
        due.is("one more than the most", x.backUp(0), -3);
        due.is("for the other male too", x.backUp(1), -3);
    }

    @Says(promise = 14, words = "the MOST and the LEAST")
    static void backUpAtTheLeastAndBelow(Due due) {
        PairChoice x = new PairChoice();
        int[] families = {0, 0, 1, 0, 3};
        for (int a = 0; a < 5; a++) {
            x.animal(a < 3 ? 0 : 1, -a, families[a]);
        }
        x.line(0, 2);
        x.run(2);
        due.pairs("the choice", x, 0, 3, 1, 4);
        due.is("as many as the least", x.backUp(0), 2);
        x.line(0, 3);
        x.run(2);
        due.is("one fewer than the least", x.backUp(0), -3);
        due.is("for the other male too", x.backUp(1), -3);
    }

    @Says(promise = 14, words = "the one with the greatest WORTH, of these the least")
    static void backUpOfTheGreatestWorthAndTheLeastOfEquals(Due due) {
        PairChoice x = Herds.plain(11, 1);
        for (int a = 0; a < 11; a++) {
            x.worth(a, -10000);
        }
        x.run(1);
        due.pairs("the least of equals", x, 0, 11);
        due.is("the next of equals, of the least worth", x.backUp(0), 1);
        x.worth(10, -9999);
        x.worth(9, -9999);
        x.run(1);
        due.pairs("the least of the greater", x, 9, 11);
        due.is("the greatest of the others", x.backUp(0), 10);
        x.worth(10, 10000);
        x.run(1);
        due.is("the greatest of the others", x.backUp(0), 9);
        x.worth(0, -9999);
        x.run(1);
        due.is("the very first, of those as great", x.backUp(0), 0);
        x.worth(0, 10000);
        x.run(1);
        due.pairs("the very first is chosen", x, 0, 11);
        due.is("one as great as the chosen", x.backUp(0), 10);
    }

    @Says(promise = 14, words = "-1 no such PAIR")
    static void backUpOfNoSuchPair(Due due) {
        for (int k : new int[] {-1, 2, 5, 6, 32, LOWEST, HIGHEST}) {
            Untouched.by(due, "pair " + k, x -> x.backUp(k), -1);
        }
        Untouched.by(due, "no choice", Herds::withoutChoice, x -> x.backUp(0), -1);
        PairChoice x = Herds.plain(3, 3);
        x.run(2);
        x.run(1);
        due.is("the last pair", x.backUp(0), 1);
        due.is("a pair of the run before", x.backUp(1), -1);
    }

    @Says(promise = 14, words = "-3 there is none")
    static void backUpWhereThereIsNone(Due due) {
        PairChoice all = Herds.plain(6, 6);
        all.run(6);
        for (int k = 0; k < 6; k++) {
            due.is("all males are chosen, pair " + k, all.backUp(k), -3);
        }
        PairChoice females = Herds.plain(1, 11);
        females.run(1);
        due.is("females alone are left", females.backUp(0), -3);
        Untouched.by(due, "the only one is barred", ChoiceBounds::oneLeftAndBarred, x -> x.backUp(0), -3);
    }

    @Says(promise = 14, words = "-1 no such PAIR; -3 there is none")
    static void noSuchPairGoesBeforeNoStandIn(Due due) {
        PairChoice x = Herds.plain(1, 1);
        due.is("no choice, and nobody else", x.backUp(0), -1);
        x.run(1);
        due.is("nobody else", x.backUp(0), -3);
        due.is("behind the last, and nobody else", x.backUp(1), -1);
    }

    private static PairChoice oneLeftAndBarred() {
        PairChoice x = Herds.plain(2, 1);
        x.bar(1, 2, true);
        x.run(1);
        return x;
    }
}
