/** Ordinary cases: the document's first sentence as one story, and the sentences that name no boundary. */
final class OrdinaryCases {
    private OrdinaryCases() {
    }

    /** Males 0 to 2 and females 3 to 6, of the families 0, 0, 1 and 2, 2, 3, 4. */
    private static PairChoice seven() {
        PairChoice x = new PairChoice();
        int[] worths = {100, 90, 60, 80, 75, 40, 10};
        int[] families = {0, 0, 1, 2, 2, 3, 4};
        for (int a = 0; a < 7; a++) {
            x.animal(a < 3 ? 0 : 1, worths[a], families[a]);
        }
        return x;
    }

    /** The rules come one by one, and each of them makes another set the best. */
    private static PairChoice sevenWithRules() {
        PairChoice x = seven();
        x.kin(0, 1, 500);
        x.limit(50);
        x.bar(0, 3, true);
        x.even(1);
        x.line(4, 1);
        return x;
    }

    @Says(promise = Says.USE, words = "Pairs chosen among animals: the most worth, with the kinship of all chosen below a limit, barred pairs apart, families not too often and lines often enough")
    static void eachRuleMakesAnotherChoice(Due due) {
        PairChoice x = seven();
        due.is("no rules", x.run(2), 2);
        due.pairs("the most worth", x, 0, 3, 1, 4);
        due.is("its worth", x.told(0), 345);
        x.kin(0, 1, 500);
        x.limit(50);
        due.is("both ways 1000 is more than 16 times 50", x.run(2), 2);
        due.pairs("0 and 1 not together", x, 0, 3, 2, 4);
        due.is("its worth", x.told(0), 315);
        x.bar(0, 3, true);
        x.run(2);
        due.pairs("0 and 3 apart", x, 0, 4, 2, 3);
        due.is("its worth is the same", x.told(0), 315);
        x.even(1);
        x.run(2);
        due.pairs("3 and 4 are of one family", x, 0, 5, 2, 3);
        due.is("its worth", x.told(0), 280);
        x.line(4, 1);
        x.run(2);
        due.pairs("6 is the only one of its line", x, 0, 6, 2, 3);
        due.is("its worth", x.told(0), 250);
        due.is("one of 0 and 1, one of 3, 4 and 5", x.told(3), 6);
    }

    @Says(promise = Says.USE, words = "eggs shared out, a male in the place of another one, which test would tell most, years ahead with losses by a seed.")
    static void whatIsAskedOfAChoice(Due due) {
        PairChoice x = sevenWithRules();
        x.run(2);
        // The pairs are worth 110 and 140, which makes 1 and 31 points.
        due.shares("eggs", x, 64, 2, 62);
        due.is("1 for 0, of the same family", x.backUp(0), 1);
        due.is("none for 2: 1 and 0 are of one family", x.backUp(1), -3);
        // By 20: 0 makes 270 and 240, 1 makes 260 and 250, 3 makes 270 and 245, 4 makes 265 and 250.
        due.is("3 has another one near it", x.test(2, 20), 3);
        // By seed 7 and below 120: 4 in year 0, nobody in year 1, 0 and 6 in year 2, 3 in year 3.
        due.is("years ahead", x.ahead(4, 120, 7L, 2), 3);
        int[] alive = {6, 6, 4, 3};
        for (int y = 0; y < 4; y++) {
            due.is("alive behind year " + y, x.after(y, 0), alive[y]);
            due.is("some set behind year " + y, x.after(y, 1), y < 2 ? 1 : 0);
            due.is("the best behind year " + y, x.after(y, 2), y < 2 ? 250 : 0);
        }
        due.pairs("the choice is the same", x, 0, 6, 2, 3);
    }

    /** What they answer is free, that they answer is not: no call may ever throw. */
    @Says(promise = Says.USE, words = "what later calls answer is free.")
    static void callsBeyondTheLastAnswerSomething(Due due) {
        PairChoice x = sevenWithRules();
        int answers = 0;
        for (int call = 13; call <= 2048; call++) {
            int answer = call % 3 == 0 ? x.limit(call % 1001) : call % 3 == 1 ? x.run(2) : x.ahead(5, 100, call, 2);
            answers += answer >= -4 ? 1 : 0;
        }
        due.is("answers", answers, 2036);
    }

    @Says(promise = Says.TERMS, words = "It MAY BE, if the sum of the KIN of all of it with all of it (each with each both ways, and with itself once) is at most")
    static void kinOfAllWithAll(Due due) {
        PairChoice x = Herds.four();
        int[][] kin = {{10}, {20, 30}, {40, 50, 60}, {70, 80, 90, 100}};
        for (int a = 0; a < 4; a++) {
            for (int b = 0; b <= a; b++) {
                x.kin(a, b, kin[a][b]);
            }
        }
        // One pair: 0 2 has 150, 0 3 has 250, 1 2 has 190, 1 3 has 290; two pairs: 200 + 2 * 350.
        int[] limits = {37, 38, 47, 48, 62, 63, 72, 73};
        int[] sets = {0, 1, 1, 2, 2, 3, 3, 4};
        int[] kinTold = {-3, 150, 150, 190, 190, 250, 250, 290};
        for (int i = 0; i < limits.length; i++) {
            x.limit(limits[i]);
            due.is("limit " + limits[i], x.run(1), sets[i] == 0 ? 0 : 1);
            due.is("limit " + limits[i] + ", sets", x.told(3), sets[i] == 0 ? -3 : sets[i]);
            due.is("limit " + limits[i] + ", kin", x.told(1), kinTold[i]);
        }
        x.limit(56);
        due.is("two pairs, 896 at most", x.run(2), 0);
        x.limit(57);
        due.is("two pairs, 912 at most", x.run(2), 2);
        due.is("their kin", x.told(1), 900);
    }

    @Says(promise = Says.TERMS, words = ", and all of it can be paired")
    static void allOfTheRulesAtOnce(Due due) {
        PairChoice x = sevenWithRules();
        x.bar(2, 6, true);
        x.bar(0, 6, true);
        x.run(2);
        due.pairs("6 is left with 1 alone", x, 1, 6, 2, 3);
        due.is("sets with 1, 2 and 6", x.told(3), 3);
        x.bar(1, 6, true);
        due.is("6 is left with nobody", x.run(2), 0);
        x.line(4, 0);
        due.is("6 is not needed any more", x.run(2), 2);
        due.pairs("without it", x, 0, 5, 2, 3);
    }

    @Says(promise = Says.TERMS, words = "THE BEST SET of N is, of those that MAY BE, the one with the greatest sum of WORTHS")
    static void bestOfThoseThatMayBe(Due due) {
        PairChoice x = Herds.plain(3, 3);
        int[] worths = {7, 11, 5, 3, 8, 13};
        for (int a = 0; a < 6; a++) {
            x.worth(a, worths[a]);
        }
        // Each best pair is barred in its turn; the next one has the next sum.
        int[][] pairs = {{1, 5}, {0, 5}, {1, 4}, {2, 5}, {0, 4}, {1, 3}, {2, 4}, {0, 3}, {2, 3}};
        int[] sums = {24, 20, 19, 18, 15, 14, 13, 10, 8};
        for (int i = 0; i < pairs.length; i++) {
            due.is("run " + i, x.run(1), 1);
            due.pairs("run " + i, x, pairs[i][0], pairs[i][1]);
            due.is("sum " + i, x.told(0), sums[i]);
            due.is("sets " + i, x.told(3), 9 - i);
            x.bar(pairs[i][0], pairs[i][1], true);
        }
        due.is("all are barred", x.run(1), 0);
    }

    @Says(promise = Says.TERMS, words = "each of animal(), worth(), kin(), bar(), limit(), even(), line() that changes something, leaves no CHOICE")
    static void changesOfWhatIsNotChosen(Due due) {
        PairChoice x = seven();
        x.run(1);
        due.pairs("the choice", x, 0, 3);
        x.worth(6, 11);
        due.noChoice("the worth of another one", x);
        x.run(1);
        x.kin(5, 6, 1);
        due.noChoice("the kin of two others", x);
        x.run(1);
        x.bar(2, 6, true);
        due.noChoice("a bar between two others", x);
        x.run(1);
        x.bar(2, 6, false);
        due.noChoice("no bar between two others any more", x);
        x.run(1);
        x.limit(999);
        due.noChoice("a limit that lets all be", x);
        x.run(1);
        x.even(12);
        due.noChoice("a most that lets all be", x);
        x.run(1);
        x.line(0, 1);
        due.noChoice("a least that is kept already", x);
        x.run(1);
        x.animal(1, -10000, 7);
        due.noChoice("one that is worth less than all", x);
        x.run(1);
        due.pairs("the same again", x, 0, 3);
    }

    @Says(promise = Says.TERMS, words = "THE CHOICE is the BEST SET of the last run")
    static void asksLeaveAllAsItIs(Due due) {
        Untouched.by(due, "pairOf(1, 1)", x -> x.pairOf(1, 1), 3);
        for (int what = 0; what < 4; what++) {
            int asked = what;
            Untouched.by(due, "told(" + what + ")", x -> x.told(asked), Herds.busy().told(what));
        }
        Untouched.by(due, "eggsOf(1)", x -> x.eggsOf(1), Herds.busy().eggsOf(1));
        Untouched.by(due, "backUp(0)", x -> x.backUp(0), 2);
        for (int n = 1; n <= 3; n++) {
            int pairs = n;
            Untouched.by(due, "test(" + n + ", 5)", x -> x.test(pairs, 5), Herds.busy().test(n, 5));
        }
        Untouched.by(due, "after(2, 2)", x -> x.after(2, 2), Herds.busy().after(2, 2));
    }

    @Says(promise = 11, words = "Of THE CHOICE: what = 0 the sum of WORTHS, 1 the sum of KIN, as told at SET, 2 how many PAIRS, 3 how many SETS of as many pairs MAY BE.")
    static void toldOfTheChoiceAlone(Due due) {
        PairChoice x = sevenWithRules();
        x.kin(0, 0, 4);
        x.kin(2, 3, 30);
        x.kin(1, 1, 900);
        x.kin(4, 5, 700);
        x.run(2);
        due.pairs("the choice", x, 0, 6, 2, 3);
        x.test(1, 10000);
        x.ahead(1, 1000, 1L, 1);
        due.is("worths of the chosen", x.told(0), 250);
        due.is("kin of the chosen", x.told(1), 64);
        due.is("pairs", x.told(2), 2);
        due.is("sets of two pairs, 1 has too much kin", x.told(3), 3);
    }

    @Says(promise = 14, words = "The male that could stand for that of PAIR k, with the females as they are")
    static void standInForEachPair(Due due) {
        PairChoice x = Herds.plain(6, 3);
        for (int a = 0; a < 6; a++) {
            x.worth(a, 60 - 10 * a);
        }
        x.bar(3, 6, true);
        x.bar(3, 7, true);
        x.bar(4, 6, true);
        x.run(3);
        due.pairs("the choice", x, 0, 6, 1, 7, 2, 8);
        due.is("3 and 4 are barred from 6", x.backUp(0), 5);
        due.is("3 is barred from 7", x.backUp(1), 4);
        due.is("3 with 8", x.backUp(2), 3);
        due.pairs("the choice stays", x, 0, 6, 1, 7, 2, 8);
    }

    @Says(promise = 15, words = "so the one with the greatest sum of what the BEST SETS of N have")
    static void testForMoreAndMorePairs(Due due) {
        PairChoice x = Herds.plain(3, 3);
        int[] worths = {50, 41, 20, 40, 31, 30};
        for (int a = 0; a < 6; a++) {
            x.worth(a, worths[a]);
        }
        // By 10: 0, 1, 3 and 4 make 181 together, 2 and 5 make 180.
        due.is("one pair: the second of each is near the first", x.test(1, 10), 0);
        // By 10: 4 makes 172 and 161, 5 makes 171 and 162, the others 324 together.
        due.is("two pairs: the last two females are near", x.test(2, 10), 4);
        due.is("three pairs: all are needed", x.test(3, 10), 0);
        // By 30: 0 makes 324, 1 and 2 make 333, 3 makes 344, 4 and 5 make 353.
        due.is("two pairs by more: the males tell something too", x.test(2, 30), 4);
    }

    @Says(promise = 16, words = "by a seed: in each year y (from 0), each ANIMAL a that is alive yet dies, if (z >>> 33) % 1000 is below the risk")
    static void sameSeedSameLosses(Due due) {
        PairChoice x = seven();
        // By seed 0 and below 160: 0 in year 0; 2 not in year 1, by 160; 1, 2 in year 2; 6 in year 3; 5 in year 4.
        int[] alive = {6, 6, 4, 3, 2};
        int[] best = {170, 170, 0, 0, 0};
        for (int again = 0; again < 2; again++) {
            due.is("seed 0", x.ahead(5, 160, 0L, 1), 2);
            for (int y = 0; y < 5; y++) {
                due.is("alive behind year " + y, x.after(y, 0), alive[y]);
                due.is("the best behind year " + y, x.after(y, 2), best[y]);
            }
            // By seed 42: 1 and 3 in year 0; 0, 4 and 6 in year 1.
            due.is("seed 42", x.ahead(2, 160, 42L, 1), 2);
            due.is("alive behind year 0", x.after(0, 0), 5);
            due.is("the best behind year 0", x.after(0, 2), 175);
            due.is("2 and 5 behind year 1", x.after(1, 2), 100);
        }
    }

    @Says(promise = 16, words = "(No ANIMAL, nor THE CHOICE, is another one for that.) -2.")
    static void refusedLookAheadLeavesTheLastOne(Due due) {
        PairChoice x = seven();
        x.run(3);
        x.ahead(2, 160, 42L, 1);
        due.is("years", x.ahead(21, 160, 42L, 1), -2);
        due.is("risk", x.ahead(1, -1, 42L, 1), -2);
        due.is("pairs", x.ahead(1, 160, 42L, 0), -2);
        due.is("the last one's first year", x.after(0, 2), 175);
        due.is("the last one's second year", x.after(1, 0), 2);
        due.pairs("the choice", x, 0, 3, 1, 4, 2, 5);
    }
}
