/** Objects to begin a test with. */
final class Herds {
    private Herds() {
    }

    /** So many males, then so many females, all worth 0 and of family 0. */
    static PairChoice plain(int males, int females) {
        PairChoice x = new PairChoice();
        for (int i = 0; i < males + females; i++) {
            x.animal(i < males ? 0 : 1, 0, 0);
        }
        return x;
    }

    /** Males 0 and 1, females 2 and 3, worths 10, 20, 30, 40, families 0 to 3. */
    static PairChoice four() {
        PairChoice x = new PairChoice();
        x.animal(0, 10, 0);
        x.animal(0, 20, 1);
        x.animal(1, 30, 2);
        x.animal(1, 40, 3);
        return x;
    }

    /**
     * Something of all that an object can hold, before a run. Males 0, 1, 2, 6 and females 3, 4, 5;
     * the best set of two is 0 with 4 and 1 with 3, and 2 could stand for either male.
     */
    static PairChoice withoutChoice() {
        PairChoice x = new PairChoice();
        int[] worths = {50, 40, 30, 20, 10, 5, -7};
        for (int a = 0; a < 7; a++) {
            x.animal(a >= 3 && a < 6 ? 1 : 0, worths[a], a);
        }
        for (int a = 0; a < 7; a++) {
            x.kin(a, a, 100 + a);
            x.kin(a, 0, 10 * a + 1);
        }
        x.bar(0, 3, true);
        x.limit(900);
        x.even(2);
        x.line(4, 1);
        x.ahead(3, 300, 7L, 1);
        return x;
    }

    /** The same with a choice of two pairs, and 77 eggs shared among them. */
    static PairChoice busy() {
        PairChoice x = withoutChoice();
        x.run(2);
        x.eggs(77);
        return x;
    }

    /** The same with all the animals that there is room for. */
    static PairChoice full() {
        PairChoice x = withoutChoice();
        for (int a = 7; a < 12; a++) {
            x.animal(a % 2, a, 7);
        }
        x.run(2);
        x.eggs(77);
        return x;
    }
}
