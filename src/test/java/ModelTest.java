import java.util.Random;

/**
 * Random runs of calls, by fixed seeds, against the model: short ones on herds of all kinds, and long ones, of just
 * the 512 calls that are promised, on two objects by turns.
 */
public final class ModelTest {
    private static final Due due = new Due();
    private static final int RUNS = 300;
    private static final int LONG_RUNS = 120;
    private static final int CALLS = 512;
    private static final int MOST_CALLS_OF_A_LOOK = 62;
    private static final int[] EXTREMES = {Integer.MIN_VALUE, Integer.MAX_VALUE, -1, 13, 1001, 10001, 100001};

    /** The calls that change something are those below it, run() is this one. */
    private static final int RUN = 7;
    private static final int KINDS_OF_CALLS = 16;

    private final Random random;
    private final int run;
    private final PairChoice x = new PairChoice();
    private final Model model = new Model();
    private final int spread;
    private final int families;
    private int calls = 0;

    private ModelTest(int run) {
        this.run = run;
        random = new Random(run);
        spread = new int[] {1, 3, 100, 10000}[random.nextInt(4)];
        families = 1 + random.nextInt(8);
    }

    public static void main(String[] args) {
        for (int run = 0; run < RUNS; run++) {
            ModelTest one = new ModelTest(run);
            one.play();
            due.is("run " + run + " is within the calls that are promised", one.calls <= CALLS, true);
        }
        for (int run = RUNS; run < RUNS + LONG_RUNS; run += 2) {
            playByTurns(new ModelTest(run), new ModelTest(run + 1));
        }
        due.end();
    }

    private static void playByTurns(ModelTest one, ModelTest other) {
        one.makeHerd();
        other.makeHerd();
        for (int turn = 0; turn < CALLS; turn++) {
            one.playOneTurn();
            other.playOneTurn();
        }
        due.is("run " + one.run + ", calls", one.calls, CALLS);
        due.is("run " + other.run + ", calls", other.calls, CALLS);
    }

    /** About as many males as females, so that many pairs can be had of them. */
    private void makeHerd() {
        int founders = 4 + random.nextInt(9);
        for (int i = 0; i < founders; i++) {
            int sex = random.nextInt(4) == 0 ? random.nextInt(2) : i % 2;
            int worth = someWorth();
            int family = random.nextInt(families);
            is("animal", x.animal(sex, worth, family), model.animal(sex, worth, family), sex, worth, family);
        }
        int kinSpread = 1 + random.nextInt(1000);
        for (int i = 0; i < 3 * founders; i++) {
            oneKin(random.nextInt(founders), random.nextInt(founders), random.nextInt(kinSpread));
        }
        int limit = Math.max(1, kinSpread / 4);
        is("limit", x.limit(limit), model.limit(limit), limit);
    }

    private void playOneTurn() {
        if (calls >= CALLS) {
            return;
        }
        int kind = calls + MOST_CALLS_OF_A_LOOK <= CALLS ? random.nextInt(30) : -1;
        if (kind == 0) {
            lookAround(1 + random.nextInt(6));
        } else if (kind == 1) {
            lookAhead(1 + random.nextInt(6));
        } else {
            oneCall(kindOfCall());
        }
    }

    /** Most calls of a long run ask, and a choice is made again soon, so that it is looked at often before it goes. */
    private int kindOfCall() {
        if (random.nextInt(8) == 0) {
            return random.nextInt(RUN);
        }
        boolean choiceIsMissed = model.told(2) < 0 && random.nextInt(2) == 0;
        return choiceIsMissed ? RUN : RUN + random.nextInt(KINDS_OF_CALLS - RUN);
    }

    /** Mostly 0 .. below, now and then some number that fits nowhere. */
    private int some(int below) {
        if (random.nextInt(60) == 0) {
            return EXTREMES[random.nextInt(EXTREMES.length)];
        }
        return random.nextInt(below);
    }

    /** One in four at an end of what it may be, where the greatest differences are. */
    private int someWorth() {
        if (random.nextInt(4) == 0) {
            return random.nextBoolean() ? spread : -spread;
        }
        return some(2 * spread + 1) - spread;
    }

    private int someEggs() {
        switch (random.nextInt(4)) {
            case 0:
                return some(20);
            case 1:
                return 100000;
            default:
                return some(100001);
        }
    }

    private void play() {
        int founders = random.nextInt(13);
        for (int i = 0; i < founders; i++) {
            oneCall(0);
        }
        int kinSpread = 1 + random.nextInt(1000);
        for (int i = 0; i < founders * 4; i++) {
            oneKin(some(12), some(12), some(kinSpread));
        }
        int bars = random.nextInt(40);
        for (int i = 0; i < bars; i++) {
            oneCall(3);
        }
        for (int i = 0; i < 160; i++) {
            oneCall(random.nextInt(KINDS_OF_CALLS));
            if (i % 16 == 0) {
                lookAround(1 + random.nextInt(4));
            }
        }
    }

    private void oneKin(int a, int b, int v) {
        is("kin", x.kin(a, b, v), model.kin(a, b, v), a, b, v);
    }

    private void is(String call, long got, long want, long... with) {
        calls++;
        StringBuilder text = new StringBuilder("run " + run + ": " + call);
        for (long v : with) {
            text.append(' ').append(v);
        }
        due.is(text.toString(), got, want);
    }

    private void lookAround(int n) {
        int eggs = someEggs();
        is("run", x.run(n), model.run(n), n);
        is("eggs", x.eggs(eggs), model.eggs(eggs), eggs);
        for (int what = 0; what < 4; what++) {
            is("told", x.told(what), model.told(what), what);
        }
        for (int k = 0; k < n; k++) {
            is("pairOf", x.pairOf(k, 0), model.pairOf(k, 0), k, 0);
            is("pairOf", x.pairOf(k, 1), model.pairOf(k, 1), k, 1);
            is("backUp", x.backUp(k), model.backUp(k), k);
            is("eggsOf", x.eggsOf(k), model.eggsOf(k), k);
        }
    }

    private void lookAhead(int n) {
        int years = 1 + random.nextInt(20);
        int risk = random.nextInt(200);
        long seed = random.nextBoolean() ? random.nextLong() : random.nextInt(1000);
        is("ahead", x.ahead(years, risk, seed, n), model.ahead(years, risk, seed, n), years, risk, seed, n);
        for (int y = 0; y <= years; y++) {
            for (int what = 0; what < 3 && y < years || what < 1; what++) {
                is("after", x.after(y, what), model.after(y, what), y, what);
            }
        }
    }

    private void oneCall(int which) {
        int a = some(12);
        int b = some(12);
        int n = 1 + some(6);
        switch (which) {
            case 0: {
                int sex = some(2);
                int worth = someWorth();
                int family = some(families);
                is("animal", x.animal(sex, worth, family), model.animal(sex, worth, family), sex, worth, family);
                break;
            }
            case 1: {
                int v = someWorth();
                is("worth", x.worth(a, v), model.worth(a, v), a, v);
                break;
            }
            case 2: {
                oneKin(a, b, some(1001));
                break;
            }
            case 3: {
                boolean on = random.nextInt(3) != 0;
                is("bar", x.bar(a, b, on) ? 1 : 0, model.bar(a, b, on) ? 1 : 0, a, b, on ? 1 : 0);
                break;
            }
            case 4: {
                int v = random.nextInt(3) == 0 ? some(1001) : 200 + some(800);
                is("limit", x.limit(v), model.limit(v), v);
                break;
            }
            case 5: {
                int v = random.nextBoolean() ? 0 : some(13);
                is("even", x.even(v), model.even(v), v);
                break;
            }
            case 6: {
                int family = some(8);
                int v = random.nextInt(3) == 0 ? some(3) : 0;
                is("line", x.line(family, v), model.line(family, v), family, v);
                break;
            }
            default:
                oneQuestion(which, n);
        }
    }

    private void oneQuestion(int which, int n) {
        int k = some(Math.max(0, model.told(2)) + 2);
        switch (which) {
            case 7:
                is("run", x.run(n), model.run(n), n);
                break;
            case 8: {
                int side = some(2);
                is("pairOf", x.pairOf(k, side), model.pairOf(k, side), k, side);
                break;
            }
            case 9: {
                int what = some(5);
                is("told", x.told(what), model.told(what), what);
                break;
            }
            case 10: {
                int eggs = someEggs();
                is("eggs", x.eggs(eggs), model.eggs(eggs), eggs);
                break;
            }
            case 11:
                is("eggsOf", x.eggsOf(k), model.eggsOf(k), k);
                break;
            case 12:
                is("backUp", x.backUp(k), model.backUp(k), k);
                break;
            case 13: {
                int d = 1 + (random.nextBoolean() ? some(10000) : some(spread));
                is("test", x.test(n, d), model.test(n, d), n, d);
                break;
            }
            case 14: {
                int years = 1 + some(20);
                int risk = random.nextBoolean() ? some(100) : some(1001);
                long seed = random.nextLong();
                is("ahead", x.ahead(years, risk, seed, n), model.ahead(years, risk, seed, n), years, risk, seed, n);
                break;
            }
            default: {
                int year = some(21);
                int what = some(4);
                is("after", x.after(year, what), model.after(year, what), year, what);
            }
        }
    }
}
