import java.util.function.ToLongFunction;

/** The boundary cases of the section "Terms" up to the refusals, a test each. */
final class TermsBounds {
    private TermsBounds() {
    }

    @Says(promise = Says.TERMS, words = "ANIMALS, at most 12, numbered from 0 on as they come")
    static void twelveAnimalsAndNoMore(Due due) {
        PairChoice x = new PairChoice();
        for (int a = 0; a < 12; a++) {
            due.is("a refused one takes no number", x.animal(2, 0, 0), -2);
            due.is("number", x.animal(a % 2, a, 0), a);
        }
        due.is("the thirteenth", x.animal(0, 0, 0), -4);
        due.is("the last", x.worth(11, 0), 11);
        due.is("behind the last", x.worth(12, 0), -20000);
    }

    @Says(promise = Says.TERMS, words = "are males (sex 0) or females (1)")
    static void sexNoughtIsMaleAndOneIsFemale(Due due) {
        PairChoice x = new PairChoice();
        due.is("a female", x.animal(1, 0, 0), 0);
        due.is("a male", x.animal(0, 0, 0), 1);
        x.run(1);
        due.pairs("male, female", x, 1, 0);
        due.is("below", x.animal(-1, 0, 0), -2);
        due.is("above", x.animal(2, 0, 0), -2);
    }

    @Says(promise = Says.TERMS, words = "have a WORTH (-10000 .. 10000)")
    static void worthAtBothEndsOfItsRange(Due due) {
        PairChoice x = new PairChoice();
        due.is("least", x.animal(0, -10000, 0), 0);
        due.is("greatest", x.animal(1, 10000, 0), 1);
        due.is("below", x.animal(0, -10001, 0), -2);
        due.is("above", x.animal(0, 10001, 0), -2);
        due.is("least to greatest", x.worth(0, 10000), -10000);
        due.is("greatest to least", x.worth(1, -10000), 10000);
        due.is("kept", x.worth(0, 0), 10000);
        due.is("kept", x.worth(1, 0), -10000);
    }

    @Says(promise = Says.TERMS, words = "and a FAMILY (0 .. 7)")
    static void familyAtBothEndsOfItsRange(Due due) {
        PairChoice x = new PairChoice();
        due.is("least", x.animal(0, 0, 0), 0);
        due.is("greatest", x.animal(1, 0, 7), 1);
        due.is("below", x.animal(0, 0, -1), -2);
        due.is("above", x.animal(0, 0, 8), -2);
        x.line(0, 1);
        x.line(7, 1);
        due.is("one of each", x.run(1), 1);
        x.line(7, 2);
        due.is("not two of the greatest", x.run(1), 0);
    }

    @Says(promise = Says.TERMS, words = "KIN of two animals (and of one with itself) is 0 .. 1000")
    static void kinAtBothEndsOfItsRange(Due due) {
        PairChoice x = Herds.four();
        for (int b = 0; b < 2; b++) {
            due.is("to the greatest", x.kin(0, b, 1000), 0);
            due.is("above", x.kin(0, b, 1001), -2);
            due.is("below", x.kin(0, b, -1), -2);
            due.is("to the least", x.kin(0, b, 0), 1000);
            due.is("kept", x.kin(0, b, 1), 0);
        }
    }

    @Says(promise = Says.TERMS, words = "0 at first")
    static void kinIsNoughtAtFirst(Due due) {
        PairChoice x = Herds.plain(6, 6);
        for (int a = 0; a < 12; a++) {
            for (int b = 0; b < 12; b++) {
                due.is("kin of " + a + " and " + b, x.kin(a, b, 0), 0);
            }
        }
        x.limit(0);
        due.is("all within a limit of 0", x.run(6), 6);
    }

    @Says(promise = Says.TERMS, words = "with a it is the same as a with it")
    static void kinIsTheSameBothWays(Due due) {
        PairChoice x = Herds.plain(6, 6);
        for (int a = 0; a < 12; a++) {
            for (int b = 0; b < a; b++) {
                x.kin(a, b, 12 * a + b);
                due.is("kin of " + b + " and " + a, x.kin(b, a, 12 * a + b + 1), 12 * a + b);
                due.is("kin of " + a + " and " + b, x.kin(a, b, 12 * a + b + 1), 12 * a + b + 1);
            }
        }
    }

    @Says(promise = Says.TERMS, words = "Two animals may be BARRED from each other.")
    static void barredBothWays(Due due) {
        PairChoice x = Herds.plain(6, 6);
        for (int male = 0; male < 6; male++) {
            for (int female = 6; female < 12; female++) {
                due.is("not at first", x.bar(male, female, false), false);
                due.is("new", x.bar(male, female, true), true);
                due.is("so for the other one", x.bar(female, male, true), false);
                due.is("the other one ends it", x.bar(female, male, false), true);
                due.is("for both", x.bar(male, female, false), false);
            }
        }
    }

    @Says(promise = Says.TERMS, words = "A SET has as many males as females, N of each, 1 at least.")
    static void setHasOneOfEachAtLeast(Due due) {
        due.is("nobody", new PairChoice().run(1), 0);
        due.is("a male alone", Herds.plain(1, 0).run(1), 0);
        due.is("a female alone", Herds.plain(0, 1).run(1), 0);
        due.is("twelve males", Herds.plain(12, 0).run(1), 0);
        due.is("twelve females", Herds.plain(0, 12).run(1), 0);
        due.is("one of each", Herds.plain(1, 1).run(1), 1);
        due.is("no pair at all is no set", Herds.plain(1, 1).run(0), -2);
    }

    @Says(promise = Says.TERMS, words = "as many males as females, N of each")
    static void setHasNoMorePairsThanTheRarerSex(Due due) {
        for (int males = 1; males < 12; males++) {
            PairChoice x = Herds.plain(males, 12 - males);
            int most = Math.min(males, 12 - males);
            for (int n = 1; n <= 6; n++) {
                due.is(males + " males, " + n + " pairs", x.run(n), n <= most ? n : 0);
                due.is(males + " males, " + n + " pairs told", x.told(2), n <= most ? n : -3);
            }
        }
    }

    @Says(promise = Says.TERMS, words = "(each with each both ways, and with itself once)")
    static void kinCountsBothWaysAndWithItselfOnce(Due due) {
        PairChoice x = Herds.plain(1, 1);
        x.kin(0, 0, 100);
        x.run(1);
        due.is("the male with itself", x.told(1), 100);
        x.kin(1, 1, 10);
        x.run(1);
        due.is("the female with itself", x.told(1), 110);
        x.kin(0, 1, 1);
        x.run(1);
        due.is("with each other both ways", x.told(1), 112);
        PairChoice two = Herds.plain(2, 2);
        two.kin(0, 1, 1);
        two.kin(2, 3, 10);
        two.kin(1, 2, 100);
        two.run(2);
        due.is("within a sex, and across the pairs too", two.told(1), 222);
    }

    @Says(promise = Says.TERMS, words = "is at most 4 N N times the LIMIT")
    static void kinAsGreatAsTheLimitAndOneBeyond(Due due) {
        for (int n = 1; n <= 6; n++) {
            PairChoice x = Herds.plain(n, n);
            x.limit(3);
            x.kin(0, 0, 12 * n * n);
            due.is("as great, " + n + " pairs", x.run(n), n);
            due.is("told", x.told(1), 12 * n * n);
            x.kin(0, 0, 12 * n * n + 1);
            due.is("one beyond, " + n + " pairs", x.run(n), 0);
            x.limit(4);
            due.is("a greater limit, " + n + " pairs", x.run(n), n);
        }
    }

    @Says(promise = Says.TERMS, words = "times the LIMIT (1000 at first)")
    static void noKinIsBeyondTheFirstLimit(Due due) {
        PairChoice x = Herds.plain(6, 6);
        for (int a = 0; a < 12; a++) {
            for (int b = 0; b <= a; b++) {
                x.kin(a, b, 1000);
            }
        }
        for (int n = 1; n <= 6; n++) {
            due.is("the greatest kin, " + n + " pairs", x.run(n), n);
            due.is("told", x.told(1), 4000 * n * n);
        }
        due.is("the first limit", x.limit(999), 1000);
        for (int n = 1; n <= 6; n++) {
            due.is("a limit one less, " + n + " pairs", x.run(n), 0);
        }
    }

    @Says(promise = Says.TERMS, words = "it has not more of any FAMILY than the MOST told")
    static void asManyOfAFamilyAsTheMostAndOneMore(Due due) {
        for (int family = 0; family < 8; family++) {
            PairChoice x = new PairChoice();
            for (int a = 0; a < 6; a++) {
                x.animal(a / 3, 0, a == 0 ? (family + 1) % 8 : family);
            }
            x.even(5);
            due.is("as many of " + family, x.run(3), 3);
            x.even(4);
            due.is("one more of " + family, x.run(3), 0);
            due.is("a pair less", x.run(2), 2);
        }
        PairChoice all = Herds.plain(6, 6);
        all.even(12);
        due.is("twelve as the most", all.run(6), 6);
        all.even(11);
        due.is("eleven as the most", all.run(6), 0);
    }

    @Says(promise = Says.TERMS, words = "(0 at first: any number)")
    static void mostOfNoughtIsAnyNumber(Due due) {
        PairChoice x = Herds.plain(6, 6);
        due.is("at first", x.run(6), 6);
        x.even(1);
        due.is("one is too few for a pair of one family", x.run(1), 0);
        x.even(0);
        due.is("0 told again", x.run(6), 6);
    }

    @Says(promise = Says.TERMS, words = "of each FAMILY at least the LEAST told for it (0 at first)")
    static void asManyOfAFamilyAsTheLeastAndOneFewer(Due due) {
        for (int family = 0; family < 8; family++) {
            PairChoice x = new PairChoice();
            for (int a = 0; a < 4; a++) {
                x.animal(a / 2, 0, a == 3 ? family : (family + 1) % 8);
            }
            due.is("0 at first", x.run(1), 1);
            due.pairs("without that family", x, 0, 2);
            x.line(family, 1);
            due.is("as many of " + family, x.run(1), 1);
            due.pairs("with that family", x, 0, 3);
            x.line(family, 2);
            due.is("one fewer of " + family, x.run(1), 0);
            due.is("nor in the greatest set", x.run(2), 0);
        }
        PairChoice all = Herds.plain(6, 6);
        all.line(0, 12);
        due.is("twelve as the least", all.run(6), 6);
        due.is("ten animals are too few", all.run(5), 0);
    }

    @Says(promise = Says.TERMS, words = "of each FAMILY at least the LEAST told for it")
    static void leastOfAFamilyThatNobodyHas(Due due) {
        PairChoice x = Herds.plain(6, 6);
        x.line(7, 1);
        for (int n = 1; n <= 6; n++) {
            due.is("nobody is of it", x.run(n), 0);
        }
        x.line(7, 0);
        due.is("none needed any more", x.run(6), 6);
    }

    @Says(promise = Says.TERMS, words = "not more of any FAMILY than the MOST told (0 at first: any number), and of each FAMILY")
    static void leastAboveTheMostLeavesNoSet(Due due) {
        PairChoice x = Herds.plain(2, 2);
        x.even(2);
        x.line(0, 2);
        due.is("least and most alike", x.run(1), 1);
        x.line(0, 3);
        due.is("the least above the most", x.run(1), 0);
        due.is("the least above the most", x.run(2), 0);
    }

    @Says(promise = Says.TERMS, words = "all of it can be paired, a male with a female each, none BARRED from each other")
    static void oneWayToPairAllAndNone(Due due) {
        PairChoice x = Herds.plain(6, 6);
        for (int male = 0; male < 6; male++) {
            for (int female = 6; female < 12; female++) {
                if (male + female != 11) {
                    x.bar(male, female, true);
                }
            }
        }
        due.is("one way is left", x.run(6), 6);
        due.pairs("that one", x, 0, 11, 1, 10, 2, 9, 3, 8, 4, 7, 5, 6);
        x.bar(3, 8, true);
        due.is("none for all", x.run(6), 0);
        due.is("one for ten", x.run(5), 5);
        due.pairs("those", x, 0, 11, 1, 10, 2, 9, 4, 7, 5, 6);
        due.is("one set alone", x.told(3), 1);
    }

    @Says(promise = Says.TERMS, words = "all of it can be paired")
    static void tooFewFemalesForSomeMales(Due due) {
        PairChoice x = Herds.plain(4, 4);
        for (int male = 0; male < 3; male++) {
            x.bar(male, 6, true);
            x.bar(male, 7, true);
        }
        due.is("three males for two females", x.run(4), 0);
        due.is("three of each, the last male among them", x.run(3), 3);
        due.pairs("pairs", x, 0, 4, 1, 5, 3, 6);
        due.is("two females are needed, and two of the first males", x.told(3), 6);
        PairChoice apart = Herds.plain(1, 1);
        apart.bar(0, 1, true);
        due.is("the only pair is barred", apart.run(1), 0);
    }

    @Says(promise = Says.TERMS, words = "the one with the greatest sum of WORTHS")
    static void greatestSumBelowNought(Due due) {
        PairChoice x = Herds.plain(6, 6);
        for (int a = 0; a < 12; a++) {
            x.worth(a, -10000 + a % 6);
        }
        x.run(1);
        due.pairs("the least bad", x, 5, 11);
        due.is("their sum", x.told(0), -19990);
        x.run(6);
        due.is("all of them", x.told(0), -119970);
        for (int a = 0; a < 12; a++) {
            x.worth(a, 10000);
        }
        x.run(6);
        due.is("the greatest of all sums", x.told(0), 120000);
    }

    @Says(promise = Says.TERMS, words = "of several that which has the least animal in which they differ")
    static void leastAnimalInWhichEqualSetsDiffer(Due due) {
        PairChoice x = Herds.plain(2, 2);
        x.run(1);
        due.pairs("all alike", x, 0, 2);
        x.bar(0, 2, true);
        x.bar(1, 3, true);
        x.run(1);
        due.pairs("0 and 3 before 1 and 2", x, 0, 3);
        x.bar(0, 3, true);
        x.bar(1, 3, false);
        x.run(1);
        due.pairs("they differ in the female alone", x, 1, 2);
        PairChoice many = Herds.plain(6, 6);
        for (int n = 1; n <= 6; n++) {
            many.run(n);
            due.is("the last male of " + n, many.pairOf(n - 1, 0), n - 1);
            due.is("the last female of " + n, many.pairOf(n - 1, 1), 5 + n);
        }
    }

    /** By a limit of 0, none of the first two animals may be in a set with one of the others. */
    private static void keepApart(PairChoice x, int a, int b, int c, int d) {
        x.limit(0);
        x.kin(a, c, 1);
        x.kin(a, d, 1);
        x.kin(b, c, 1);
        x.kin(b, d, 1);
    }

    @Says(promise = Says.TERMS, words = "that which has the least animal in which they differ")
    static void leastAnimalOutweighsAllTheOthers(Due due) {
        PairChoice males = Herds.plain(4, 2);
        keepApart(males, 0, 3, 1, 2);
        males.run(2);
        due.is("two sets", males.told(3), 2);
        due.pairs("males 0 and 3 before 1 and 2", males, 0, 4, 3, 5);
        PairChoice beside = Herds.plain(5, 3);
        keepApart(beside, 1, 4, 2, 3);
        beside.run(3);
        due.is("two sets", beside.told(3), 2);
        due.pairs("0 beside them is in both", beside, 0, 5, 1, 6, 4, 7);
        PairChoice females = Herds.plain(2, 4);
        keepApart(females, 2, 5, 3, 4);
        females.run(2);
        due.is("two sets", females.told(3), 2);
        due.pairs("females 2 and 5 before 3 and 4", females, 0, 2, 1, 5);
        PairChoice mixed = new PairChoice();
        for (int a = 0; a < 4; a++) {
            mixed.animal(1 - a % 2, 0, 0);
        }
        mixed.bar(0, 1, true);
        mixed.bar(2, 3, true);
        mixed.run(1);
        due.is("two sets", mixed.told(3), 2);
        due.pairs("female 0 with 3 before male 1 with 2", mixed, 3, 0);
    }

    @Says(promise = Says.TERMS, words = "THE CHOICE is the BEST SET of the last run, in PAIRS")
    static void laterRunTakesThePlaceOfTheChoice(Due due) {
        PairChoice x = Herds.four();
        x.run(2);
        x.run(1);
        due.pairs("one pair", x, 1, 3);
        due.is("one pair told", x.told(2), 1);
        x.run(2);
        due.pairs("two pairs", x, 0, 2, 1, 3);
        due.is("two pairs told", x.told(2), 2);
    }

    @Says(promise = Says.TERMS, words = "its males by their numbers")
    static void malesByTheirNumbersAmongFemales(Due due) {
        PairChoice x = new PairChoice();
        for (int a = 0; a < 12; a++) {
            x.animal(1 - a % 2, -a, 0);
        }
        x.run(6);
        due.pairs("females have the even numbers", x, 1, 0, 3, 2, 5, 4, 7, 6, 9, 8, 11, 10);
    }

    @Says(promise = Says.TERMS, words = "the first with the least female such that the rest can be paired, and so on")
    static void leastFemaleThatLeavesTheRestTheirs(Due due) {
        PairChoice x = Herds.plain(6, 6);
        for (int female = 7; female < 12; female++) {
            x.bar(5, female, true);
        }
        x.run(6);
        due.pairs("6 is left to the last male", x, 0, 7, 1, 8, 2, 9, 3, 10, 4, 11, 5, 6);
        for (int female = 8; female < 12; female++) {
            x.bar(4, female, true);
        }
        x.run(6);
        due.pairs("7 to the last but one", x, 0, 8, 1, 9, 2, 10, 3, 11, 4, 7, 5, 6);
        x.bar(0, 8, true);
        x.bar(1, 9, true);
        x.run(6);
        due.pairs("8 to the second", x, 0, 9, 1, 8, 2, 10, 3, 11, 4, 7, 5, 6);
    }

    @Says(promise = Says.TERMS, words = "PAIRS are numbered from 0 on")
    static void pairsAreNumberedFromNought(Due due) {
        PairChoice x = Herds.plain(6, 6);
        x.run(6);
        due.is("before the first", x.pairOf(-1, 0), -1);
        due.is("the first", x.pairOf(0, 0), 0);
        due.is("the last", x.pairOf(5, 0), 5);
        due.is("behind the last", x.pairOf(6, 0), -1);
    }

    @Says(promise = Says.TERMS, words = "A run without one")
    static void runWithoutASetLeavesNoChoice(Due due) {
        PairChoice x = Herds.busy();
        due.is("too few animals", x.run(6), 0);
        due.noChoice("run(6)", x);
        PairChoice barred = Herds.plain(1, 1);
        barred.run(1);
        barred.bar(0, 1, true);
        due.is("barred", barred.run(1), 0);
        due.noChoice("run(1)", barred);
    }

    private static void choiceGoesBy(Due due, String text, ToLongFunction<PairChoice> call, long want) {
        PairChoice x = Herds.busy();
        due.is("a choice before " + text, x.told(2), 2);
        due.is(text, call.applyAsLong(x), want);
        due.noChoice("after " + text, x);
    }

    @Says(promise = Says.TERMS, words = "and each of animal(), worth(), kin(), bar(), limit(), even(), line() that changes something, leaves no CHOICE")
    static void eachChangeLeavesNoChoice(Due due) {
        choiceGoesBy(due, "animal(1, -10000, 7)", x -> x.animal(1, -10000, 7), 7);
        choiceGoesBy(due, "worth(6, -8)", x -> x.worth(6, -8), -7);
        choiceGoesBy(due, "worth(0, 51)", x -> x.worth(0, 51), 50);
        choiceGoesBy(due, "kin(5, 6, 1)", x -> x.kin(5, 6, 1), 0);
        choiceGoesBy(due, "kin(6, 6, 107)", x -> x.kin(6, 6, 107), 106);
        choiceGoesBy(due, "bar(6, 5, true)", x -> x.bar(6, 5, true) ? 1 : 0, 1);
        choiceGoesBy(due, "bar(0, 3, false)", x -> x.bar(0, 3, false) ? 1 : 0, 1);
        choiceGoesBy(due, "limit(901)", x -> x.limit(901), 900);
        choiceGoesBy(due, "even(12)", x -> x.even(12), 2);
        choiceGoesBy(due, "even(0)", x -> x.even(0), 2);
        choiceGoesBy(due, "line(4, 0)", x -> x.line(4, 0), 1);
        choiceGoesBy(due, "line(0, 1)", x -> x.line(0, 1), 0);
    }

    @Says(promise = Says.TERMS, words = "that changes something")
    static void whatWasSoAlreadyLeavesTheChoice(Due due) {
        Untouched.by(due, "worth(6, -7)", x -> x.worth(6, -7), -7);
        Untouched.by(due, "kin(3, 0, 31)", x -> x.kin(3, 0, 31), 31);
        Untouched.by(due, "kin(0, 3, 31)", x -> x.kin(0, 3, 31), 31);
        Untouched.by(due, "kin(5, 6, 0)", x -> x.kin(5, 6, 0), 0);
        Untouched.by(due, "bar(3, 0, true)", x -> x.bar(3, 0, true) ? 1 : 0, 0);
        Untouched.by(due, "bar(6, 5, false)", x -> x.bar(6, 5, false) ? 1 : 0, 0);
        Untouched.by(due, "limit(900)", x -> x.limit(900), 900);
        Untouched.by(due, "even(2)", x -> x.even(2), 2);
        Untouched.by(due, "line(4, 1)", x -> x.line(4, 1), 1);
        Untouched.by(due, "line(0, 0)", x -> x.line(0, 0), 0);
    }

    @Says(promise = Says.TERMS, words = "REFUSALS change nothing and answer, the first that fits: -1 an unknown number, -2 outside a range, -3 not in this state, -4 no room.")
    static void theFirstRefusalThatFitsAndNothingChanged(Due due) {
        Untouched.by(due, "outside before no room", Herds::full, x -> x.animal(2, 0, 0), -2);
        Untouched.by(due, "outside before no room", Herds::full, x -> x.animal(0, 10001, 0), -2);
        Untouched.by(due, "outside before no room", Herds::full, x -> x.animal(0, 0, 8), -2);
        Untouched.by(due, "unknown before outside", x -> x.worth(7, 10001), -20000);
        Untouched.by(due, "unknown before outside", x -> x.kin(0, 7, 1001), -1);
        Untouched.by(due, "unknown before outside", x -> x.kin(7, 0, -1), -1);
        Untouched.by(due, "unknown before outside", x -> x.line(8, 13), -1);
        Untouched.by(due, "unknown before outside", x -> x.pairOf(2, 2), -1);
        Untouched.by(due, "unknown before outside", Herds::withoutChoice, x -> x.pairOf(0, 2), -1);
        Untouched.by(due, "outside before the state", Herds::withoutChoice, x -> x.told(4), -2);
        Untouched.by(due, "outside before the state", Herds::withoutChoice, x -> x.eggs(-1), -2);
        Untouched.by(due, "unknown before the state", Herds::withoutChoice, x -> x.backUp(0), -1);
        Untouched.by(due, "outside before the state", x -> x.test(4, 0), -2);
        Untouched.by(due, "outside before the state", x -> x.test(7, 5), -2);
        Untouched.by(due, "unknown before outside", x -> x.after(3, 3), -1);
    }
}
