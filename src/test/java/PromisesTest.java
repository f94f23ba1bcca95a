/** Each promise of the document: ordinary calls, the edges that it names, and wrong inputs. */
public final class PromisesTest {
    private static final Due due = new Due();

    public static void main(String[] args) {
        newObject();
        animal();
        worth();
        kin();
        bar();
        limit();
        even();
        line();
        run();
        runKeepsRules();
        runAmongEquals();
        pairOf();
        told();
        eggs();
        eggsOf();
        backUp();
        backUpKeepsRules();
        test();
        ahead();
        after();
        due.end();
    }

    private static void choiceStays(String call, PairChoice x) {
        due.is(call + " leaves the choice", x.told(2), 1);
    }

    private static void choiceGoes(String call, PairChoice x) {
        due.is(call + " ends the choice", x.told(2), -3);
        due.is(call + " ends the pairs", x.pairOf(0, 0), -1);
        x.run(1);
    }

    private static void newObject() {
        PairChoice x = new PairChoice();
        due.is("1: worth(0, 0)", x.worth(0, 0), -20000);
        due.is("1: told(2)", x.told(2), -3);
        due.is("1: pairOf(0, 0)", x.pairOf(0, 0), -1);
        due.is("1: eggs(1)", x.eggs(1), -3);
        due.is("1: after(0, 0)", x.after(0, 0), -1);
        for (int n = 1; n <= 6; n++) {
            due.is("1: run", x.run(n), 0);
            due.is("1: test", x.test(n, 1), -3);
        }
        due.is("1: limit", x.limit(1000), 1000);
        due.is("1: even", x.even(0), 0);
        for (int f = 0; f < 8; f++) {
            due.is("1: line", x.line(f, 0), 0);
        }
        due.is("1: animal", x.animal(0, 0, 0), 0);
        due.is("1: another object's animal", new PairChoice().animal(1, 0, 0), 0);
    }

    private static void animal() {
        PairChoice x = new PairChoice();
        due.is("2: sex -1", x.animal(-1, 0, 0), -2);
        due.is("2: sex 2", x.animal(2, 0, 0), -2);
        due.is("2: worth too small", x.animal(0, -10001, 0), -2);
        due.is("2: worth too great", x.animal(0, 10001, 0), -2);
        due.is("2: family -1", x.animal(0, 0, -1), -2);
        due.is("2: family 8", x.animal(0, 0, 8), -2);
        due.is("2: extremes", x.animal(Integer.MIN_VALUE, Integer.MAX_VALUE, Integer.MIN_VALUE), -2);
        due.is("2: least worth", x.animal(0, -10000, 0), 0);
        due.is("2: greatest worth", x.animal(1, 10000, 7), 1);
        due.is("2: worth kept", x.worth(0, -10000), -10000);
        due.is("2: worth kept", x.worth(1, 10000), 10000);
        x.run(1);
        due.pairs("2:", x, 0, 1);
        due.is("2: refused", x.animal(0, 0, 8), -2);
        choiceStays("2: a refused animal", x);
        for (int i = 2; i < 12; i++) {
            due.is("2: number", x.animal(i % 2, 0, 0), i);
            choiceGoes("2: an animal", x);
        }
        due.is("2: no room", x.animal(0, 0, 0), -4);
        due.is("2: outside goes before no room", x.animal(0, 0, 8), -2);
        choiceStays("2: an animal without room", x);
        due.is("2: no thirteenth", x.worth(12, 0), -20000);
    }

    private static void worth() {
        PairChoice x = Herds.four();
        due.is("3: no such", x.worth(4, 0), -20000);
        due.is("3: no such", x.worth(-1, 0), -20000);
        due.is("3: no such goes first", x.worth(4, 10001), -20000);
        due.is("3: too great", x.worth(0, 10001), -20001);
        due.is("3: too small", x.worth(0, -10001), -20001);
        due.is("3: extremes", x.worth(Integer.MIN_VALUE, Integer.MIN_VALUE), -20000);
        due.is("3: was", x.worth(0, 10000), 10);
        due.is("3: was", x.worth(0, -10000), 10000);
        due.is("3: was", x.worth(0, 10), -10000);
        due.is("3: other one", x.worth(3, 40), 40);
        due.is("3: run", x.run(1), 1);
        due.pairs("3:", x, 1, 3);
        x.worth(0, 10);
        x.worth(0, 10001);
        x.worth(4, 1);
        choiceStays("3: the same worth or a refused one", x);
        x.worth(0, 21);
        choiceGoes("3: another worth", x);
        due.pairs("3: the worth counts", x, 0, 3);
        due.is("3: sum", x.told(0), 61);
    }

    private static void kin() {
        PairChoice x = Herds.four();
        due.is("4: no such", x.kin(0, 4, 0), -1);
        due.is("4: no such", x.kin(4, 0, 0), -1);
        due.is("4: no such", x.kin(-1, 0, 0), -1);
        due.is("4: no such", x.kin(0, -1, 0), -1);
        due.is("4: no such goes first", x.kin(0, 4, 1001), -1);
        due.is("4: too great", x.kin(0, 1, 1001), -2);
        due.is("4: too small", x.kin(0, 1, -1), -2);
        due.is("4: extremes", x.kin(Integer.MAX_VALUE, Integer.MIN_VALUE, Integer.MAX_VALUE), -1);
        due.is("4: at first", x.kin(0, 1, 1000), 0);
        due.is("4: the other way", x.kin(1, 0, 5), 1000);
        due.is("4: back", x.kin(0, 1, 0), 5);
        due.is("4: with itself", x.kin(2, 2, 7), 0);
        due.is("4: with itself", x.kin(2, 2, 8), 7);
        due.is("4: another pair", x.kin(2, 3, 0), 0);
        x.run(1);
        x.kin(2, 2, 8);
        x.kin(2, 2, 1001);
        choiceStays("4: the same kin or a refused one", x);
        x.kin(2, 2, 9);
        choiceGoes("4: another kin", x);
        x.kin(3, 1, 100);
        choiceGoes("4: another kin", x);
        due.is("4: counted both ways", x.told(1), 200);
    }

    private static void bar() {
        PairChoice x = Herds.four();
        due.is("5: no such", x.bar(0, 4, true), false);
        due.is("5: no such", x.bar(4, 0, true), false);
        due.is("5: no such", x.bar(-1, 2, true), false);
        due.is("5: extremes", x.bar(Integer.MIN_VALUE, Integer.MAX_VALUE, true), false);
        due.is("5: males", x.bar(0, 1, true), false);
        due.is("5: females", x.bar(2, 3, true), false);
        due.is("5: itself", x.bar(2, 2, true), false);
        due.is("5: not barred", x.bar(0, 2, false), false);
        x.run(1);
        x.bar(0, 2, false);
        x.bar(0, 1, true);
        choiceStays("5: nothing new", x);
        due.is("5: new", x.bar(1, 3, true), true);
        choiceGoes("5: a new bar", x);
        due.is("5: not new", x.bar(1, 3, true), false);
        due.is("5: nor the other way", x.bar(3, 1, true), false);
        choiceStays("5: a bar that was", x);
        due.pairs("5: apart", x, 0, 3);
        due.is("5: the tied set with the least animal", x.told(0), 50);
        due.is("5: off", x.bar(3, 1, false), true);
        choiceGoes("5: a bar taken off", x);
        due.pairs("5: together", x, 1, 3);
        due.is("5: off already", x.bar(1, 3, false), false);
        choiceStays("5: off already", x);
        due.is("5: female first", x.bar(3, 1, true), true);
        due.is("5: seen from the male", x.bar(1, 3, false), true);
    }

    private static void limit() {
        PairChoice x = Herds.four();
        due.is("6: too small", x.limit(-1), -2);
        due.is("6: too great", x.limit(1001), -2);
        due.is("6: at first", x.limit(0), 1000);
        due.is("6: was", x.limit(1000), 0);
        due.is("6: was", x.limit(70), 1000);
        x.run(1);
        x.limit(70);
        x.limit(1001);
        choiceStays("6: the same limit or a refused one", x);
        x.limit(69);
        choiceGoes("6: another limit", x);
    }

    private static void even() {
        PairChoice x = Herds.four();
        due.is("7: too small", x.even(-1), -2);
        due.is("7: too great", x.even(13), -2);
        due.is("7: at first", x.even(12), 0);
        due.is("7: was", x.even(0), 12);
        x.run(1);
        x.even(0);
        x.even(13);
        choiceStays("7: the same most or a refused one", x);
        x.even(1);
        choiceGoes("7: another most", x);
        due.is("7: was", x.even(1), 1);
    }

    private static void line() {
        PairChoice x = Herds.four();
        due.is("8: no such family", x.line(-1, 0), -1);
        due.is("8: no such family", x.line(8, 0), -1);
        due.is("8: no such family goes first", x.line(8, 13), -1);
        due.is("8: too small", x.line(0, -1), -2);
        due.is("8: too great", x.line(7, 13), -2);
        due.is("8: at first", x.line(7, 12), 0);
        due.is("8: was", x.line(7, 0), 12);
        due.is("8: another family", x.line(0, 0), 0);
        x.run(1);
        x.line(0, 0);
        x.line(0, 13);
        x.line(8, 1);
        choiceStays("8: the same least or a refused one", x);
        x.line(0, 1);
        choiceGoes("8: another least", x);
        due.pairs("8: the least counts", x, 0, 3);
    }

    private static void run() {
        PairChoice x = Herds.four();
        due.is("9: no pairs", x.run(0), -2);
        due.is("9: too many", x.run(7), -2);
        due.is("9: extremes", x.run(Integer.MIN_VALUE), -2);
        due.is("9: one", x.run(1), 1);
        due.pairs("9:", x, 1, 3);
        due.is("9: refused", x.run(7), -2);
        choiceStays("9: a refused run", x);
        due.is("9: none", x.run(3), 0);
        due.is("9: none leaves no choice", x.told(2), -3);
        due.is("9: two", x.run(2), 2);
        due.pairs("9:", x, 0, 2, 1, 3);
        PairChoice y = Herds.plain(6, 6);
        for (int n = 1; n <= 6; n++) {
            due.is("9: of twelve", y.run(n), n);
        }
        due.pairs("9: all", y, 0, 6, 1, 7, 2, 8, 3, 9, 4, 10, 5, 11);
        due.is("9: males alone", Herds.plain(12, 0).run(1), 0);
        due.is("9: females alone", Herds.plain(0, 12).run(1), 0);
        due.is("9: one male among many", Herds.plain(1, 11).run(2), 0);
    }

    private static void runKeepsRules() {
        PairChoice x = Herds.four();
        x.kin(1, 1, 100);
        x.kin(3, 3, 100);
        x.kin(1, 3, 40);
        x.limit(70);
        due.is("9: kin as great as the limit lets it", x.run(1), 1);
        due.pairs("9:", x, 1, 3);
        x.limit(69);
        x.run(1);
        due.pairs("9: kin beyond the limit", x, 0, 3);
        x.limit(0);
        x.run(1);
        due.pairs("9: no kin at all", x, 0, 2);
        x.kin(0, 2, 1);
        due.is("9: all beyond", x.run(1), 0);

        PairChoice most = Herds.plain(3, 3);
        due.is("9: any number of a family", most.run(3), 3);
        most.even(5);
        due.is("9: more than the most", most.run(3), 0);
        due.is("9: not more than the most", most.run(2), 2);
        most.even(6);
        due.is("9: as many as the most", most.run(3), 3);
        most.line(0, 6);
        due.is("9: as many as the least", most.run(3), 3);
        due.is("9: fewer than the least", most.run(2), 0);
        most.line(0, 0);
        most.line(7, 1);
        due.is("9: a family that nobody has", most.run(3), 0);

        PairChoice apart = Herds.plain(3, 3);
        apart.bar(0, 4, true);
        apart.bar(0, 5, true);
        apart.bar(1, 4, true);
        apart.bar(1, 5, true);
        due.is("9: two males for one female", apart.run(3), 0);
        due.is("9: a pair less", apart.run(2), 2);
        due.pairs("9:", apart, 0, 3, 2, 4);
    }

    private static void runAmongEquals() {
        PairChoice x = Herds.plain(4, 4);
        x.run(2);
        due.pairs("9: the least animals", x, 0, 4, 1, 5);
        x.worth(0, -3);
        x.worth(3, 3);
        x.worth(1, -1);
        x.worth(2, -1);
        x.run(2);
        due.pairs("9: the least animal in which they differ", x, 1, 4, 3, 5);
        PairChoice crossed = Herds.plain(4, 2);
        crossed.bar(0, 4, true);
        crossed.bar(1, 5, true);
        crossed.bar(2, 4, true);
        crossed.bar(3, 5, true);
        crossed.run(2);
        due.pairs("9: the rest can be paired", crossed, 0, 5, 1, 4);
        crossed.bar(1, 4, true);
        crossed.bar(2, 5, true);
        crossed.run(2);
        due.pairs("9: 0 and 3 go before any without 0", crossed, 0, 5, 3, 4);
        PairChoice families = new PairChoice();
        families.animal(0, 0, 0);
        families.animal(0, 0, 1);
        families.animal(0, 0, 1);
        families.animal(0, 0, 0);
        families.animal(1, 0, 2);
        families.animal(1, 0, 2);
        families.kin(0, 1, 1);
        families.kin(0, 2, 1);
        families.kin(3, 1, 1);
        families.kin(3, 2, 1);
        families.limit(0);
        families.run(2);
        due.pairs("9: 0 and 3 go before 1 and 2", families, 0, 4, 3, 5);
        due.is("9: both may be", families.told(3), 2);
        PairChoice y = new PairChoice();
        y.animal(1, 5, 0);
        y.animal(0, 5, 0);
        y.animal(1, 7, 0);
        y.animal(0, 7, 0);
        y.bar(0, 1, true);
        y.bar(2, 3, true);
        y.run(1);
        due.pairs("9: the least is a female", y, 3, 0);
        due.is("9: equal worths", y.told(0), 12);
        due.is("9: both may be", y.told(3), 2);
    }

    private static void pairOf() {
        PairChoice x = Herds.plain(3, 3);
        due.is("10: no choice", x.pairOf(0, 0), -1);
        x.bar(1, 4, true);
        x.bar(1, 5, true);
        x.bar(0, 4, true);
        x.run(3);
        due.pairs("10: the least such that the rest can be paired", x, 0, 5, 1, 3, 2, 4);
        due.is("10: no such pair", x.pairOf(3, 0), -1);
        due.is("10: no such pair", x.pairOf(-1, 0), -1);
        due.is("10: no such pair goes first", x.pairOf(3, 2), -1);
        due.is("10: another which", x.pairOf(0, 2), -2);
        due.is("10: another which", x.pairOf(2, -1), -2);
        due.is("10: extremes", x.pairOf(Integer.MIN_VALUE, Integer.MIN_VALUE), -1);
        x.run(1);
        due.is("10: a pair of the run before", x.pairOf(1, 0), -1);
    }

    private static void told() {
        PairChoice x = Herds.four();
        due.is("11: no choice", x.told(0), -3);
        due.is("11: no choice", x.told(3), -3);
        due.is("11: outside goes first", x.told(4), -2);
        due.is("11: outside goes first", x.told(-1), -2);
        for (int a = 0; a < 4; a++) {
            for (int b = 0; b <= a; b++) {
                x.kin(a, b, 10 * a + b);
            }
        }
        x.run(1);
        due.is("11: worths", x.told(0), 60);
        due.is("11: kin", x.told(1), 11 + 33 + 2 * 31);
        due.is("11: pairs", x.told(2), 1);
        due.is("11: sets", x.told(3), 4);
        due.is("11: another what", x.told(4), -2);
        x.run(2);
        due.is("11: worths", x.told(0), 100);
        due.is("11: kin", x.told(1), 66 + 2 * (10 + 20 + 21 + 30 + 31 + 32));
        due.is("11: pairs", x.told(2), 2);
        due.is("11: sets", x.told(3), 1);
        x.test(1, 5);
        x.ahead(3, 900, 4L, 1);
        due.is("11: sets, others looked for since", x.told(3), 1);
        due.pairs("11: others looked for since", x, 0, 2, 1, 3);
        x.bar(0, 3, true);
        x.run(1);
        due.is("11: sets without the barred one", x.told(3), 3);
        PairChoice y = Herds.plain(6, 6);
        y.run(3);
        due.is("11: the most sets", y.told(3), 400);
        PairChoice low = Herds.plain(6, 6);
        for (int a = 0; a < 12; a++) {
            low.worth(a, -10000);
            for (int b = 0; b <= a; b++) {
                low.kin(a, b, 1000);
            }
        }
        due.is("11: lowest", low.run(6), 6);
        due.is("11: lowest worths", low.told(0), -120000);
        due.is("11: greatest kin", low.told(1), 144000);
    }

    private static void eggs() {
        PairChoice x = Herds.plain(3, 3);
        due.is("12: no choice", x.eggs(1), -3);
        due.is("12: outside goes first", x.eggs(-1), -2);
        x.worth(0, 2);
        x.worth(1, 1);
        x.run(3);
        due.is("12: too few", x.eggs(-1), -2);
        due.is("12: too many", x.eggs(100001), -2);
        due.is("12: none", x.eggs(0), 0);
        due.shares("12: 3 : 2 : 1 of 6", x, 6, 3, 2, 1);
        due.shares("12: 3 : 2 : 1 of 1", x, 1, 1, 0, 0);
        due.shares("12: 3 : 2 : 1 of 2", x, 2, 1, 1, 0);
        due.shares("12: 3 : 2 : 1 of 3", x, 3, 2, 1, 0);
        due.shares("12: 3 : 2 : 1 of 4", x, 4, 2, 1, 1);
        due.shares("12: 3 : 2 : 1 of 5", x, 5, 2, 2, 1);
        due.shares("12: 3 : 2 : 1 of all", x, 100000, 50000, 33333, 16667);
        PairChoice same = Herds.plain(3, 3);
        same.run(3);
        due.shares("12: the lesser pair first", same, 5, 2, 2, 1);
        due.shares("12: the lesser pair first", same, 4, 2, 1, 1);
        PairChoice wide = Herds.plain(2, 2);
        wide.worth(0, -10000);
        wide.worth(2, -10000);
        wide.worth(1, 10000);
        wide.worth(3, 10000);
        wide.run(2);
        due.shares("12: the widest points, below zero", wide, 100000, 2, 99998);
        PairChoice middle = Herds.plain(3, 3);
        middle.worth(0, 1);
        middle.worth(2, 2);
        middle.run(3);
        due.shares("12: the least pair in the middle", middle, 12, 4, 2, 6);
        PairChoice last = Herds.plain(2, 2);
        last.worth(0, -1);
        last.worth(2, -2);
        last.run(2);
        due.shares("12: the least pair first", last, 5, 1, 4);
        PairChoice one = Herds.four();
        one.run(1);
        due.shares("12: one pair", one, 100000, 100000);
    }

    private static void eggsOf() {
        PairChoice x = Herds.four();
        due.is("13: no choice", x.eggsOf(0), -1);
        x.run(2);
        due.is("13: no eggs yet", x.eggsOf(0), 0);
        due.is("13: no eggs yet", x.eggsOf(1), 0);
        x.eggs(22);
        due.is("13: least pair", x.eggsOf(0), 1);
        due.is("13: other pair", x.eggsOf(1), 21);
        due.is("13: no such pair", x.eggsOf(2), -1);
        due.is("13: no such pair", x.eggsOf(-1), -1);
        due.is("13: extremes", x.eggsOf(Integer.MAX_VALUE), -1);
        x.eggs(-1);
        due.is("13: refused eggs", x.eggsOf(1), 21);
        x.run(9);
        due.is("13: a refused run", x.eggsOf(1), 21);
        x.run(2);
        due.is("13: a new choice", x.eggsOf(1), 0);
        x.eggs(22);
        x.worth(0, 9);
        due.is("13: the choice is gone", x.eggsOf(0), -1);
        x.run(2);
        due.is("13: a new choice", x.eggsOf(0), 0);
    }

    private static void backUp() {
        PairChoice x = Herds.plain(5, 3);
        due.is("14: no choice", x.backUp(0), -1);
        x.worth(0, 9);
        x.worth(1, 8);
        x.worth(2, 3);
        x.worth(3, 5);
        x.worth(4, 5);
        x.run(2);
        due.pairs("14:", x, 0, 5, 1, 6);
        due.is("14: the least of the greatest worth", x.backUp(0), 3);
        due.is("14: no such pair", x.backUp(2), -1);
        due.is("14: no such pair", x.backUp(-1), -1);
        x.bar(3, 5, true);
        x.run(2);
        due.is("14: barred from this female", x.backUp(0), 4);
        due.is("14: not barred from that one", x.backUp(1), 3);
        PairChoice all = Herds.four();
        all.run(2);
        due.is("14: all are chosen", all.backUp(0), -3);
        all.run(1);
        due.is("14: a female is no male", all.backUp(0), 0);
        PairChoice falling = Herds.plain(3, 1);
        falling.worth(0, 5);
        falling.worth(1, -10000);
        falling.worth(2, 9);
        falling.run(1);
        due.is("14: the first is the greatest", falling.backUp(0), 0);
    }

    private static void backUpKeepsRules() {
        PairChoice x = new PairChoice();
        x.animal(0, 9, 0);
        x.animal(0, 8, 1);
        x.animal(0, 7, 2);
        x.animal(0, 6, 0);
        x.animal(1, 0, 1);
        x.run(1);
        due.is("14: no rule", x.backUp(0), 1);
        x.even(1);
        x.run(1);
        due.is("14: the most", x.backUp(0), 2);
        x.line(0, 1);
        x.run(1);
        due.is("14: the least", x.backUp(0), 3);
        x.line(0, 0);
        x.limit(10);
        x.kin(2, 4, 20);
        x.run(1);
        due.is("14: as much kin as the limit lets it", x.backUp(0), 2);
        x.kin(2, 2, 1);
        x.run(1);
        due.is("14: the limit", x.backUp(0), 3);
        x.bar(3, 4, true);
        x.run(1);
        due.is("14: none is left", x.backUp(0), -3);
    }

    private static void test() {
        PairChoice x = Herds.four();
        due.is("15: no pairs", x.test(0, 1), -2);
        due.is("15: too many pairs", x.test(7, 1), -2);
        due.is("15: d too small", x.test(1, 0), -2);
        due.is("15: d too great", x.test(1, 10001), -2);
        due.is("15: no set", x.test(3, 1), -3);
        due.is("15: outside goes first", x.test(3, 0), -2);
        x.run(1);
        // d = 10: 0 gives 60 + 60, 1 gives 70 + 50, 2 gives 60 + 60, 3 gives 70 + 50.
        due.is("15: all alike", x.test(1, 10), 0);
        // 30 more or less: 0 gives 80 + 60, 1 gives 90 + 50, 2 gives 80 + 60, 3 gives 90 + 50.
        due.is("15: all alike", x.test(1, 30), 0);
        x.worth(1, 19);
        // d = 30: 0 gives 80 + 59, 1 gives 89 + 50, 2 gives 79 + 59, 3 gives 89 + 49.
        due.is("15: the least of the greatest", x.test(1, 30), 0);
        x.worth(1, 20);
        x.worth(2, 31);
        // d = 30: 0 gives 80 + 60, 1 gives 90 + 50, 2 gives 81 + 60, 3 gives 90 + 51.
        due.is("15: the least of the greatest", x.test(1, 30), 2);
        x.worth(3, 10000);
        x.worth(2, 9999);
        // Beyond the range: 2 gives 20019 + 10020, 3 gives 20020 + 10019 and both are alike.
        due.is("15: beyond its range", x.test(1, 10000), 2);
        due.is("15: the worth stays", x.worth(2, 9999), 9999);
        x.run(1);
        x.test(2, 7);
        choiceStays("15: a test", x);
        due.pairs("15: a test", x, 1, 3);
        PairChoice sole = Herds.plain(1, 3);
        sole.bar(0, 1, true);
        // The male and the barred female are never what tells.
        due.is("15: a choice to make", sole.test(1, 5), 2);
    }

    private static void ahead() {
        PairChoice x = Herds.four();
        due.is("16: no years", x.ahead(0, 0, 0L, 1), -2);
        due.is("16: too many years", x.ahead(21, 0, 0L, 1), -2);
        due.is("16: risk too small", x.ahead(1, -1, 0L, 1), -2);
        due.is("16: risk too great", x.ahead(1, 1001, 0L, 1), -2);
        due.is("16: no pairs", x.ahead(1, 0, 0L, 0), -2);
        due.is("16: too many pairs", x.ahead(1, 0, 0L, 7), -2);
        due.is("16: refused ones leave nothing", x.after(0, 0), -1);
        due.is("16: no risk", x.ahead(20, 0, 5L, 6), 4);
        due.is("16: sure loss", x.ahead(1, 1000, 5L, 1), 0);
        due.is("16: nobody", new PairChoice().ahead(20, 500, 1L, 1), 0);
        due.is("16: seed 7, 2 years", x.ahead(2, 200, 7L, 1), 4);
        due.is("16: seed 7, 3 years", x.ahead(3, 200, 7L, 1), 3);
        due.is("16: seed 7, 8 years", x.ahead(8, 200, 7L, 1), 1);
        due.is("16: seed -1, 1 year", x.ahead(1, 200, -1L, 1), 2);
        due.is("16: seed -1, 2 years", x.ahead(2, 200, -1L, 1), 1);
        due.is("16: greatest seed, 5 years", x.ahead(5, 200, Long.MAX_VALUE, 1), 4);
        due.is("16: greatest seed, 7 years", x.ahead(7, 200, Long.MAX_VALUE, 1), 1);
        // The fates of the first year by seed 7 begin with 650, 337, 426, 824.
        due.is("16: a risk above one fate", x.ahead(1, 338, 7L, 1), 3);
        due.is("16: a risk as great as the fate", x.ahead(1, 337, 7L, 1), 4);
        x.run(2);
        x.eggs(22);
        x.ahead(20, 1000, 1L, 1);
        due.is("16: the eggs stay", x.eggsOf(1), 21);
        due.pairs("16: the choice stays", x, 0, 2, 1, 3);
        due.is("16: the animals stay", x.run(2), 2);
    }

    private static void after() {
        PairChoice x = Herds.four();
        due.is("17: nothing yet", x.after(0, 0), -1);
        x.ahead(8, 200, 7L, 1);
        // Alive: all, all, 1 2 3, 1 2, 1 2, 1, 1, 1.
        int[] alive = {4, 4, 3, 2, 2, 1, 1, 1};
        int[] sums = {60, 60, 60, 50, 50, 0, 0, 0};
        for (int y = 0; y < 8; y++) {
            due.is("17: alive behind " + y, x.after(y, 0), alive[y]);
            due.is("17: some set behind " + y, x.after(y, 1), y < 5 ? 1 : 0);
            due.is("17: best behind " + y, x.after(y, 2), sums[y]);
        }
        due.is("17: no such year", x.after(8, 0), -1);
        due.is("17: no such year", x.after(-1, 0), -1);
        due.is("17: no such year goes first", x.after(8, 3), -1);
        due.is("17: another what", x.after(0, 3), -2);
        due.is("17: another what", x.after(7, -1), -2);
        due.is("17: extremes", x.after(Integer.MIN_VALUE, Integer.MAX_VALUE), -1);
        x.worth(1, 9999);
        x.ahead(0, 0, 0L, 1);
        due.is("17: as it was when looked for", x.after(0, 2), 60);
        x.ahead(2, 200, 7L, 2);
        due.is("17: two pairs", x.after(1, 2), 10079);
        due.is("17: fewer years than before", x.after(2, 0), -1);
        x.ahead(3, 200, 7L, 2);
        due.is("17: too few for two pairs", x.after(2, 1), 0);
        x.worth(0, -10000);
        x.worth(1, -10000);
        x.ahead(1, 0, 0L, 1);
        due.is("17: some set below zero", x.after(0, 1), 1);
        due.is("17: best below zero", x.after(0, 2), -9960);
        x.line(7, 1);
        x.ahead(1, 0, 0L, 1);
        due.is("17: none by the rules", x.after(0, 1), 0);
        due.is("17: none by the rules", x.after(0, 0), 4);
    }
}
