/** The boundary cases of the promises 1 to 5 (a new object, animal, worth, kin, bar), a test each. */
final class AnimalBounds {
    private static final int LOWEST = Integer.MIN_VALUE;
    private static final int HIGHEST = Integer.MAX_VALUE;

    private AnimalBounds() {
    }

    @Says(promise = 1, words = "No ANIMALS")
    static void newObjectHasNoAnimals(Due due) {
        PairChoice x = new PairChoice();
        due.is("worth(0, 0)", x.worth(0, 0), -20000);
        due.is("kin(0, 0, 0)", x.kin(0, 0, 0), -1);
        due.is("bar(0, 0, true)", x.bar(0, 0, true), false);
        due.is("bar(0, 1, true)", x.bar(0, 1, true), false);
        for (int n = 1; n <= 6; n++) {
            due.is("run(" + n + ")", x.run(n), 0);
            due.is("test(" + n + ", 1)", x.test(n, 1), -3);
        }
        due.is("ahead(20, 0, 0, 1)", x.ahead(20, 0, 0L, 1), 0);
        due.is("the first animal's number", x.animal(0, 0, 0), 0);
    }

    @Says(promise = 1, words = "no CHOICE")
    static void newObjectHasNoChoice(Due due) {
        due.noChoice("new", new PairChoice());
        due.is("no year either", new PairChoice().after(0, 0), -1);
    }

    @Says(promise = 1, words = "A new object")
    static void newObjectHasNothingOfAnother(Due due) {
        Herds.full();
        PairChoice x = new PairChoice();
        due.noChoice("beside another", x);
        due.is("its limit", x.limit(1000), 1000);
        due.is("its most", x.even(0), 0);
        for (int f = 0; f < 8; f++) {
            due.is("its least of " + f, x.line(f, 0), 0);
        }
        due.is("its first number", x.animal(0, 0, 0), 0);
        due.is("its second number", x.animal(1, 0, 0), 1);
        due.is("its kin", x.kin(0, 0, 0), 0);
        due.is("its kin", x.kin(0, 1, 0), 0);
        due.is("its bars", x.bar(0, 1, false), false);
    }

    @Says(promise = 2, words = "An ANIMAL: its number.")
    static void firstAndLastNumber(Due due) {
        PairChoice x = new PairChoice();
        due.is("the first", x.animal(1, -10000, 7), 0);
        for (int a = 1; a < 11; a++) {
            x.animal(0, 0, 0);
        }
        due.is("the last", x.animal(0, 10000, 0), 11);
        x.run(1);
        due.pairs("the last and the first", x, 11, 0);
    }

    @Says(promise = 2, words = "-2, -4.")
    static void sexOutsideItsRange(Due due) {
        for (int sex : new int[] {-1, 2, LOWEST, HIGHEST}) {
            Untouched.by(due, "sex " + sex, x -> x.animal(sex, 0, 0), -2);
        }
    }

    @Says(promise = 2, words = "-2, -4.")
    static void worthOfANewOneOutsideItsRange(Due due) {
        for (int worth : new int[] {-10001, 10001, LOWEST, HIGHEST}) {
            Untouched.by(due, "worth " + worth, x -> x.animal(0, worth, 0), -2);
        }
    }

    @Says(promise = 2, words = "-2, -4.")
    static void familyOfANewOneOutsideItsRange(Due due) {
        for (int family : new int[] {-1, 8, 32, LOWEST, HIGHEST}) {
            Untouched.by(due, "family " + family, x -> x.animal(0, 0, family), -2);
        }
    }

    @Says(promise = 2, words = "-2, -4.")
    static void noRoomForAThirteenth(Due due) {
        Untouched.by(due, "a thirteenth male", Herds::full, x -> x.animal(0, 0, 0), -4);
        Untouched.by(due, "a thirteenth female", Herds::full, x -> x.animal(1, 10000, 7), -4);
    }

    @Says(promise = 2, words = "-2, -4.")
    static void outsideGoesBeforeNoRoom(Due due) {
        Untouched.by(due, "sex", Herds::full, x -> x.animal(2, 0, 0), -2);
        Untouched.by(due, "worth", Herds::full, x -> x.animal(0, 10001, 0), -2);
        Untouched.by(due, "family", Herds::full, x -> x.animal(0, 0, 8), -2);
    }

    @Says(promise = 3, words = "An ANIMAL's WORTH: what it was.")
    static void worthAsItWasAtBothEnds(Due due) {
        PairChoice x = Herds.plain(6, 6);
        for (int a = 0; a < 12; a++) {
            due.is("of a new one", x.worth(a, -10000), 0);
            due.is("the least", x.worth(a, 10000), -10000);
            due.is("the greatest", x.worth(a, 10000 - a), 10000);
        }
        for (int a = 0; a < 12; a++) {
            due.is("its own", x.worth(a, 0), 10000 - a);
        }
    }

    @Says(promise = 3, words = "-20000 no such ANIMAL")
    static void worthOfNoSuchAnimal(Due due) {
        for (int animal : new int[] {-1, 7, 11, 12, 32, LOWEST, HIGHEST}) {
            Untouched.by(due, "animal " + animal, x -> x.worth(animal, 1), -20000);
        }
        Untouched.by(due, "behind the twelfth", Herds::full, x -> x.worth(12, 1), -20000);
        due.is("the last that there is", Herds.full().worth(11, 1), 11);
    }

    @Says(promise = 3, words = "-20001 outside its range")
    static void worthOutsideItsRange(Due due) {
        for (int worth : new int[] {-10001, 10001, LOWEST, HIGHEST}) {
            Untouched.by(due, "worth " + worth, x -> x.worth(0, worth), -20001);
        }
    }

    @Says(promise = 3, words = "-20000 no such ANIMAL, -20001 outside its range")
    static void noSuchAnimalGoesBeforeItsWorth(Due due) {
        Untouched.by(due, "too great", x -> x.worth(7, 10001), -20000);
        Untouched.by(due, "too small", x -> x.worth(-1, -10001), -20000);
    }

    @Says(promise = 4, words = "The KIN of two ANIMALS: what it was.")
    static void kinAsItWasAtBothEnds(Due due) {
        PairChoice x = Herds.plain(6, 6);
        for (int a = 0; a < 12; a++) {
            due.is("at first", x.kin(a, 11 - a, 1000), a < 6 ? 0 : 500);
            due.is("the greatest", x.kin(11 - a, a, 0), 1000);
            due.is("the least", x.kin(a, 11 - a, 500), 0);
            due.is("with itself at first", x.kin(a, a, 1000), 0);
            due.is("with itself, the greatest", x.kin(a, a, a), 1000);
        }
        for (int a = 0; a < 12; a++) {
            due.is("its own", x.kin(a, a, 0), a);
        }
    }

    @Says(promise = 4, words = "-1, -2.")
    static void kinOfNoSuchAnimals(Due due) {
        for (int animal : new int[] {-1, 7, 11, 12, 32, LOWEST, HIGHEST}) {
            Untouched.by(due, "the first is " + animal, x -> x.kin(animal, 0, 1), -1);
            Untouched.by(due, "the second is " + animal, x -> x.kin(0, animal, 1), -1);
            Untouched.by(due, "both are " + animal, x -> x.kin(animal, animal, 1), -1);
        }
        Untouched.by(due, "behind the twelfth", Herds::full, x -> x.kin(11, 12, 1), -1);
    }

    @Says(promise = 4, words = "-1, -2.")
    static void kinOutsideItsRange(Due due) {
        for (int kin : new int[] {-1, 1001, LOWEST, HIGHEST}) {
            Untouched.by(due, "kin " + kin, x -> x.kin(0, 3, kin), -2);
            Untouched.by(due, "kin " + kin + " with itself", x -> x.kin(0, 0, kin), -2);
        }
    }

    @Says(promise = 4, words = "-1, -2.")
    static void noSuchAnimalGoesBeforeItsKin(Due due) {
        Untouched.by(due, "the first, too great", x -> x.kin(7, 0, 1001), -1);
        Untouched.by(due, "the second, too small", x -> x.kin(0, -1, -1), -1);
    }

    @Says(promise = 5, words = "Two ANIMALS are BARRED from each other, or not any more: whether that is new")
    static void barThatIsNewAndThatIsNot(Due due) {
        PairChoice x = Herds.plain(1, 1);
        due.is("off, as at first", x.bar(0, 1, false), false);
        due.is("on", x.bar(0, 1, true), true);
        due.is("on again", x.bar(0, 1, true), false);
        due.is("apart", x.run(1), 0);
        due.is("off", x.bar(1, 0, false), true);
        due.is("off again", x.bar(1, 0, false), false);
        due.is("together", x.run(1), 1);
        due.is("on once more", x.bar(1, 0, true), true);
    }

    @Says(promise = 5, words = "false if there are none such")
    static void barOfNoSuchAnimals(Due due) {
        for (int animal : new int[] {-1, 7, 11, 12, 32, 35, LOWEST, HIGHEST}) {
            Untouched.by(due, "the male is " + animal, x -> x.bar(animal, 4, true) ? 1 : 0, 0);
            Untouched.by(due, "the female is " + animal, x -> x.bar(1, animal, true) ? 1 : 0, 0);
            Untouched.by(due, "both are " + animal, x -> x.bar(animal, animal, true) ? 1 : 0, 0);
        }
        Untouched.by(due, "off", x -> x.bar(0, 35, false) ? 1 : 0, 0);
        Untouched.by(due, "behind the twelfth", Herds::full, x -> x.bar(0, 12, true) ? 1 : 0, 0);
    }

    @Says(promise = 5, words = "or they are of one sex")
    static void barOfOneSex(Due due) {
        Untouched.by(due, "two males", x -> x.bar(0, 1, true) ? 1 : 0, 0);
        Untouched.by(due, "two females", x -> x.bar(4, 3, true) ? 1 : 0, 0);
        Untouched.by(due, "a male and itself", x -> x.bar(0, 0, true) ? 1 : 0, 0);
        Untouched.by(due, "a female and itself", x -> x.bar(5, 5, true) ? 1 : 0, 0);
        Untouched.by(due, "two males, off", x -> x.bar(1, 2, false) ? 1 : 0, 0);
        PairChoice x = Herds.plain(2, 2);
        due.is("asked for twice", x.bar(0, 1, true), false);
        due.is("asked for twice", x.bar(0, 1, true), false);
    }
}
