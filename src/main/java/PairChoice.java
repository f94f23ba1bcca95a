/**
 * Pairs chosen among animals: the most worth, within rules on kinship, barred pairs and families.
 *
 * <p>A set of animals is an int all through: bit a stands for animal a.
 */
public final class PairChoice {
    private static final int UNKNOWN = -1;
    private static final int OUTSIDE = -2;
    private static final int NOT_NOW = -3;
    private static final int NO_ROOM = -4;
    private static final int WORTH_UNKNOWN = -20000;
    private static final int WORTH_OUTSIDE = -20001;

    private static final int MOST_ANIMALS = 12;
    private static final int MOST_PAIRS = 6;
    private static final int FAMILIES = 8;
    private static final int MOST_WORTH = 10000;
    private static final int MOST_KIN = 1000;
    private static final int MOST_EGGS = 100000;
    private static final int MOST_DIFFERENCE = 10000;
    private static final int MOST_YEARS = 20;
    private static final int MOST_RISK = 1000;

    /** No choice of sex and number gives more: 3 of 6 males with 3 of 6 females, 20 times 20. */
    private static final int MOST_SETS = 400;

    /** Far below the sum of worths that any set can have. */
    private static final int NO_SUM = -100000000;

    private final Herd herd;
    private final SetList sets;
    private final Choice choice;
    private final Outlook outlook;

    public PairChoice() {
        herd = new Herd();
        sets = new SetList(herd);
        choice = new Choice(herd);
        outlook = new Outlook();
    }

    public int animal(int sex, int worth, int family) {
        if (!isWithin(sex, 0, 1) || !isWorth(worth) || !isWithin(family, 0, FAMILIES - 1)) {
            return OUTSIDE;
        }
        if (herd.count >= MOST_ANIMALS) {
            return NO_ROOM;
        }
        forgetFindings();
        return herd.add(sex, worth, family);
    }

    public int worth(int animal, int v) {
        if (!herd.knows(animal)) {
            return WORTH_UNKNOWN;
        }
        if (!isWorth(v)) {
            return WORTH_OUTSIDE;
        }
        int was = herd.worths[animal];
        if (v != was) {
            herd.worths[animal] = v;
            forgetFindings();
        }
        return was;
    }

    public int kin(int a, int b, int v) {
        if (!herd.knows(a) || !herd.knows(b)) {
            return UNKNOWN;
        }
        if (!isWithin(v, 0, MOST_KIN)) {
            return OUTSIDE;
        }
        int was = herd.kinships[a][b];
        if (v != was) {
            herd.kinships[a][b] = v;
            herd.kinships[b][a] = v;
            forgetFindings();
        }
        return was;
    }

    public boolean bar(int a, int b, boolean on) {
        if (!herd.knows(a) || !herd.knows(b)) {
            return false;
        }
        if (has(herd.males, a) == has(herd.males, b) || has(herd.barred[a], b) == on) {
            return false;
        }
        herd.barred[a] ^= bit(b);
        herd.barred[b] ^= bit(a);
        forgetFindings();
        return true;
    }

    public int limit(int v) {
        if (!isWithin(v, 0, MOST_KIN)) {
            return OUTSIDE;
        }
        int was = herd.kinLimit;
        if (v != was) {
            herd.kinLimit = v;
            forgetFindings();
        }
        return was;
    }

    public int even(int most) {
        if (!isWithin(most, 0, MOST_ANIMALS)) {
            return OUTSIDE;
        }
        int was = herd.mostOfFamily;
        if (most != was) {
            herd.mostOfFamily = most;
            forgetFindings();
        }
        return was;
    }

    public int line(int family, int least) {
        if (!isWithin(family, 0, FAMILIES - 1)) {
            return UNKNOWN;
        }
        if (!isWithin(least, 0, MOST_ANIMALS)) {
            return OUTSIDE;
        }
        int was = herd.leastOfFamily[family];
        if (least != was) {
            herd.leastOfFamily[family] = least;
            forgetFindings();
        }
        return was;
    }

    public int run(int n) {
        if (!isNumberOfPairs(n)) {
            return OUTSIDE;
        }
        sets.listAll(n);
        if (sets.size == 0) {
            choice.drop();
            return 0;
        }
        choice.take(sets.best(), n, sets.size);
        return n;
    }

    public int pairOf(int k, int which) {
        if (!choice.hasPair(k)) {
            return UNKNOWN;
        }
        if (!isWithin(which, 0, 1)) {
            return OUTSIDE;
        }
        return which == 0 ? choice.pairing.males[k] : choice.pairing.females[k];
    }

    public int told(int what) {
        if (!isWithin(what, 0, 3)) {
            return OUTSIDE;
        }
        if (choice.pairs == 0) {
            return NOT_NOW;
        }
        switch (what) {
            case 0:
                return herd.worthSum(choice.set);
            case 1:
                return herd.kinSum(choice.set);
            case 2:
                return choice.pairs;
            default:
                return choice.setsThatMayBe;
        }
    }

    public int eggs(int n) {
        if (!isWithin(n, 0, MOST_EGGS)) {
            return OUTSIDE;
        }
        if (choice.pairs == 0) {
            return NOT_NOW;
        }
        choice.shareOut(n);
        return choice.eggShares[0];
    }

    public int eggsOf(int k) {
        return choice.hasPair(k) ? choice.eggShares[k] : UNKNOWN;
    }

    public int backUp(int k) {
        if (!choice.hasPair(k)) {
            return UNKNOWN;
        }
        int best = NOT_NOW;
        for (int male = 0; male < herd.count; male++) {
            if (choice.couldStandIn(male, k) && (best < 0 || herd.worths[male] > herd.worths[best])) {
                best = male;
            }
        }
        return best;
    }

    public int test(int n, int d) {
        if (!isNumberOfPairs(n) || !isWithin(d, 1, MOST_DIFFERENCE)) {
            return OUTSIDE;
        }
        sets.listAll(n);
        if (sets.size == 0) {
            return NOT_NOW;
        }
        int best = 0;
        int bestSum = NO_SUM;
        for (int a = 0; a < herd.count; a++) {
            int sum = sets.greatestSumWith(a, d) + sets.greatestSumWith(a, -d);
            if (sum > bestSum) {
                best = a;
                bestSum = sum;
            }
        }
        return best;
    }

    public int ahead(int years, int risk, long seed, int n) {
        if (!isWithin(years, 1, MOST_YEARS) || !isWithin(risk, 0, MOST_RISK) || !isNumberOfPairs(n)) {
            return OUTSIDE;
        }
        sets.listAll(n);
        outlook.years = years;
        int alive = herd.all();
        for (int y = 0; y < years; y++) {
            alive = survivors(alive, seed + 16L * y, risk);
            outlook.note(y, Integer.bitCount(alive), sets.greatestSumAmong(alive));
        }
        return Integer.bitCount(alive);
    }

    public int after(int year, int what) {
        if (!isWithin(year, 0, outlook.years - 1)) {
            return UNKNOWN;
        }
        switch (what) {
            case 0:
                return outlook.alive[year];
            case 1:
                return outlook.bestSums[year] == NO_SUM ? 0 : 1;
            case 2:
                return outlook.bestSums[year] == NO_SUM ? 0 : outlook.bestSums[year];
            default:
                return OUTSIDE;
        }
    }

    /** Whatever changes animals or rules calls this: the choice and the listed sets hold for neither any more. */
    private void forgetFindings() {
        choice.drop();
        sets.forget();
    }

    private static int survivors(int alive, long yearSeed, int risk) {
        int left = alive;
        for (int a = 0; a < MOST_ANIMALS; a++) {
            if (fate(yearSeed + a + 1) < risk) {
                left &= ~bit(a);
            }
        }
        return left;
    }

    /** 0 .. 999, as the document mixes it. */
    private static long fate(long key) {
        long z = key * 0x9E3779B97F4A7C15L;
        z = (z ^ (z >>> 29)) * 0xBF58476D1CE4E5B9L;
        return (z >>> 33) % 1000;
    }

    private static boolean isWithin(int v, int least, int most) {
        return v >= least && v <= most;
    }

    private static boolean isWorth(int v) {
        return isWithin(v, -MOST_WORTH, MOST_WORTH);
    }

    private static boolean isNumberOfPairs(int n) {
        return isWithin(n, 1, MOST_PAIRS);
    }

    private static int bit(int animal) {
        return 1 << animal;
    }

    private static boolean has(int set, int animal) {
        return ((set >> animal) & 1) != 0;
    }

    /** The least animal of a set that has one. */
    private static int leastOf(int set) {
        return Integer.bitCount((set & -set) - 1);
    }

    /** The animals and the rules that a set of them has to keep. */
    private static final class Herd {
        private int count = 0;
        private int males = 0;
        private final int[] worths = new int[MOST_ANIMALS];
        private final int[] families = new int[FAMILIES];
        private final int[][] kinships = new int[MOST_ANIMALS][MOST_ANIMALS];
        private final int[] barred = new int[MOST_ANIMALS];
        private int kinLimit = MOST_KIN;
        private int mostOfFamily = 0;
        private final int[] leastOfFamily = new int[FAMILIES];

        private boolean knows(int animal) {
            return animal >= 0 && animal < count;
        }

        private int all() {
            return bit(count) - 1;
        }

        private int add(int sex, int itsWorth, int family) {
            int number = count;
            count++;
            worths[number] = itsWorth;
            families[family] |= bit(number);
            if (sex == 0) {
                males |= bit(number);
            }
            return number;
        }

        private int worthSum(int set) {
            int sum = 0;
            for (int a = 0; a < count; a++) {
                if (has(set, a)) {
                    sum += worths[a];
                }
            }
            return sum;
        }

        private int kinSum(int set) {
            int sum = 0;
            for (int a = 0; a < count; a++) {
                if (!has(set, a)) {
                    continue;
                }
                sum += kinships[a][a];
                for (int b = 0; b < a; b++) {
                    if (has(set, b)) {
                        sum += 2 * kinships[a][b];
                    }
                }
            }
            return sum;
        }

        private boolean keepsFamilies(int set) {
            for (int f = 0; f < FAMILIES; f++) {
                int members = Integer.bitCount(set & families[f]);
                if (members < leastOfFamily[f] || (mostOfFamily > 0 && members > mostOfFamily)) {
                    return false;
                }
            }
            return true;
        }

        /** All that a set has to keep but the pairing. */
        private boolean keepsRules(int set, int pairs) {
            return keepsFamilies(set) && kinSum(set) <= 4 * pairs * pairs * kinLimit;
        }
    }

    /** A male with a female each, none barred from each other. */
    private static final class Pairing {
        private final int[] males = new int[MOST_PAIRS];
        private final int[] females = new int[MOST_PAIRS];

        private boolean pairSet(Herd herd, int set) {
            return pairFrom(0, herd, set & herd.males, set & ~herd.males);
        }

        /** Each male tries the females upwards, so the first way that is found is the one that the document asks for. */
        private boolean pairFrom(int k, Herd herd, int malesLeft, int femalesLeft) {
            if (malesLeft == 0) {
                return true;
            }
            if (k >= MOST_PAIRS) {
                return false;
            }
            int male = leastOf(malesLeft);
            if (!herd.knows(male)) {
                return false;
            }
            int fitting = femalesLeft & ~herd.barred[male];
            for (int female = 0; female < herd.count; female++) {
                if (has(fitting, female)
                        && pairFrom(k + 1, herd, malesLeft & ~bit(male), femalesLeft & ~bit(female))) {
                    males[k] = male;
                    females[k] = female;
                    return true;
                }
            }
            return false;
        }
    }

    /** The sets of one number of pairs that may be, kept until something changes or another number is asked for. */
    private static final class SetList {
        private final Herd herd;
        private final Pairing trial = new Pairing();
        private final int[] listed = new int[MOST_SETS];
        private final int[] sums = new int[MOST_SETS];
        private int size = 0;
        private int pairs = 0;

        private SetList(Herd herd) {
            this.herd = herd;
        }

        private void forget() {
            pairs = 0;
        }

        private void listAll(int n) {
            if (n == pairs) {
                return;
            }
            pairs = n;
            size = 0;
            // Less one and masked, a number falls through all the subsets of its mask down to 0.
            for (int part = herd.males; part > 0; part = (part - 1) & herd.males) {
                if (Integer.bitCount(part) == n) {
                    listWithMales(part);
                }
            }
        }

        private void listWithMales(int males) {
            int females = herd.all() & ~herd.males;
            for (int part = females; part > 0; part = (part - 1) & females) {
                if (Integer.bitCount(part) == pairs) {
                    listIfItMayBe(males | part);
                }
            }
        }

        private void listIfItMayBe(int set) {
            if (size < MOST_SETS && herd.keepsRules(set, pairs) && trial.pairSet(herd, set)) {
                listed[size] = set;
                sums[size] = herd.worthSum(set);
                size++;
            }
        }

        /** The best of the listed sets, 0 if there are none. */
        private int best() {
            int best = 0;
            int bestSum = NO_SUM;
            for (int i = 0; i < size; i++) {
                if (sums[i] > bestSum || (sums[i] == bestSum && goesBefore(listed[i], best))) {
                    best = listed[i];
                    bestSum = sums[i];
                }
            }
            return best;
        }

        private static boolean goesBefore(int set, int other) {
            int differing = set ^ other;
            return (set & differing & -differing) != 0;
        }

        /** The greatest sum of worths, one animal's being so much more. */
        private int greatestSumWith(int animal, int more) {
            int greatest = NO_SUM;
            for (int i = 0; i < size; i++) {
                int sum = has(listed[i], animal) ? sums[i] + more : sums[i];
                greatest = Math.max(greatest, sum);
            }
            return greatest;
        }

        private int greatestSumAmong(int alive) {
            int greatest = NO_SUM;
            for (int i = 0; i < size; i++) {
                if ((listed[i] & ~alive) == 0) {
                    greatest = Math.max(greatest, sums[i]);
                }
            }
            return greatest;
        }
    }

    /** The best set of the last run, in pairs, and their eggs; 0 pairs where there is none. */
    private static final class Choice {
        private final Herd herd;
        private final Pairing pairing = new Pairing();
        private int pairs = 0;
        private int set = 0;
        private int setsThatMayBe = 0;
        private final int[] eggShares = new int[MOST_PAIRS];
        private final long[] rests = new long[MOST_PAIRS];

        private Choice(Herd herd) {
            this.herd = herd;
        }

        private void drop() {
            pairs = 0;
        }

        private void take(int best, int n, int howManyMayBe) {
            set = best;
            pairs = n;
            setsThatMayBe = howManyMayBe;
            pairing.pairSet(herd, best);
            for (int k = 0; k < MOST_PAIRS; k++) {
                eggShares[k] = 0;
            }
        }

        private boolean hasPair(int k) {
            return k >= 0 && k < pairs;
        }

        private int pairWorth(int k) {
            return herd.worths[pairing.males[k]] + herd.worths[pairing.females[k]];
        }

        private int leastPairWorth() {
            int least = pairWorth(0);
            for (int k = 1; k < pairs; k++) {
                least = Math.min(least, pairWorth(k));
            }
            return least;
        }

        private void shareOut(int n) {
            int base = leastPairWorth() - 1;
            long allPoints = 0;
            for (int k = 0; k < pairs; k++) {
                allPoints += pairWorth(k) - base;
            }
            if (allPoints < 1) {
                return;
            }
            int left = n;
            for (int k = 0; k < pairs; k++) {
                long due = (long) n * (pairWorth(k) - base);
                eggShares[k] = (int) (due / allPoints);
                rests[k] = due % allPoints;
                left -= eggShares[k];
            }
            giveLeftOnes(left);
        }

        /** What is left is less than one egg a pair. */
        private void giveLeftOnes(int left) {
            for (int i = 0; i < left && i < pairs; i++) {
                int k = greatestRest();
                eggShares[k]++;
                rests[k] = -1;
            }
        }

        private int greatestRest() {
            int greatest = 0;
            for (int k = 1; k < pairs; k++) {
                if (rests[k] > rests[greatest]) {
                    greatest = k;
                }
            }
            return greatest;
        }

        /** Whether a male could take the place of pair k's one, with all the other pairs as they are. */
        private boolean couldStandIn(int male, int k) {
            if (!has(herd.males & ~set, male) || has(herd.barred[male], pairing.females[k])) {
                return false;
            }
            int changed = (set & ~bit(pairing.males[k])) | bit(male);
            return herd.keepsRules(changed, pairs);
        }
    }

    /** What the last look ahead found behind each of its years. */
    private static final class Outlook {
        private int years = 0;
        private final int[] alive = new int[MOST_YEARS];
        private final int[] bestSums = new int[MOST_YEARS];

        private void note(int year, int howManyAlive, int bestSum) {
            alive[year] = howManyAlive;
            bestSums[year] = bestSum;
        }
    }
}
