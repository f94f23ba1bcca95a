import java.util.Random;

/** Random runs of calls, by fixed seeds, against the model; none is longer than the 512 calls that are promised. */
public final class ModelTest {
    private static final Due due = new Due();
    private static final int RUNS = 300;
    private static final int[] EXTREMES = {Integer.MIN_VALUE, Integer.MAX_VALUE, -1, 13, 1001, 10001, 100001};

    private final Random random;
    private final int run;
    private final PairChoice x = new PairChoice();
    private final Model model = new Model();
    private final int spread;
    private final int families;

    private ModelTest(int run) {
        this.run = run;
        random = new Random(run);
        spread = new int[] {1, 3, 100, 10000}[random.nextInt(4)];
        families = 1 + random.nextInt(8);
    }

    public static void main(String[] args) {
        for (int run = 0; run < RUNS; run++) {
            new ModelTest(run).play();
        }
        due.end();
    }

    /** Mostly 0 .. below, now and then some number that fits nowhere. */
    private int some(int below) {
        if (random.nextInt(60) == 0) {
            return EXTREMES[random.nextInt(EXTREMES.length)];
        }
        return random.nextInt(below);
    }

    private int someWorth() {
        return some(2 * spread + 1) - spread;
    }

    private void play() {
        int founders = random.nextInt(13);
        for (int i = 0; i < founders; i++) {
            oneCall(0);
        }
        int kinSpread = 1 + random.nextInt(1000);
        for (int i = 0; i < founders * 4; i++) {
            int a = some(12);
            int b = some(12);
            int v = some(kinSpread);
            is("kin", x.kin(a, b, v), model.kin(a, b, v), a, b, v);
        }
        int bars = random.nextInt(40);
        for (int i = 0; i < bars; i++) {
            oneCall(3);
        }
        for (int i = 0; i < 160; i++) {
            oneCall(random.nextInt(16));
            if (i % 16 == 0) {
                lookAround();
            }
        }
    }

    private void is(String call, long got, long want, long... with) {
        StringBuilder text = new StringBuilder("run " + run + ": " + call);
        for (long v : with) {
            text.append(' ').append(v);
        }
        due.is(text.toString(), got, want);
    }

    private void lookAround() {
        int n = 1 + random.nextInt(4);
        is("run", x.run(n), model.run(n), n);
        for (int what = 0; what < 4; what++) {
            is("told", x.told(what), model.told(what), what);
        }
        for (int k = 0; k < n; k++) {
            is("pairOf", x.pairOf(k, 0), model.pairOf(k, 0), k, 0);
            is("pairOf", x.pairOf(k, 1), model.pairOf(k, 1), k, 1);
            is("backUp", x.backUp(k), model.backUp(k), k);
        }
    }

    private void oneCall(int which) {
        int a = some(12);
        int b = some(12);
        int n = 1 + some(6);
        switch (which) {
            case 0: {
                int sex = some(2);
                int worth = someWorth();
                int family = some(families);
                is("animal", x.animal(sex, worth, family), model.animal(sex, worth, family), sex, worth, family);
                break;
            }
            case 1: {
                int v = someWorth();
                is("worth", x.worth(a, v), model.worth(a, v), a, v);
                break;
            }
            case 2: {
                int v = some(1001);
                is("kin", x.kin(a, b, v), model.kin(a, b, v), a, b, v);
                break;
            }
            case 3: {
                boolean on = random.nextInt(3) != 0;
                is("bar", x.bar(a, b, on) ? 1 : 0, model.bar(a, b, on) ? 1 : 0, a, b, on ? 1 : 0);
                break;
            }
            case 4: {
                int v = random.nextInt(3) == 0 ? some(1001) : 200 + some(800);
                is("limit", x.limit(v), model.limit(v), v);
                break;
            }
            case 5: {
                int v = random.nextBoolean() ? 0 : some(13);
                is("even", x.even(v), model.even(v), v);
                break;
            }
            case 6: {
                int family = some(8);
                int v = random.nextInt(3) == 0 ? some(3) : 0;
                is("line", x.line(family, v), model.line(family, v), family, v);
                break;
            }
            default:
                oneQuestion(which, n);
        }
    }

    private void oneQuestion(int which, int n) {
        int k = some(4);
        switch (which) {
            case 7:
                is("run", x.run(n), model.run(n), n);
                break;
            case 8: {
                int side = some(2);
                is("pairOf", x.pairOf(k, side), model.pairOf(k, side), k, side);
                break;
            }
            case 9: {
                int what = some(5);
                is("told", x.told(what), model.told(what), what);
                break;
            }
            case 10: {
                int eggs = random.nextBoolean() ? some(20) : some(100001);
                is("eggs", x.eggs(eggs), model.eggs(eggs), eggs);
                break;
            }
            case 11:
                is("eggsOf", x.eggsOf(k), model.eggsOf(k), k);
                break;
            case 12:
                is("backUp", x.backUp(k), model.backUp(k), k);
                break;
            case 13: {
                int d = 1 + (random.nextBoolean() ? some(10000) : some(spread));
                is("test", x.test(n, d), model.test(n, d), n, d);
                break;
            }
            case 14: {
                int years = 1 + some(20);
                int risk = random.nextBoolean() ? some(100) : some(1001);
                long seed = random.nextLong();
                is("ahead", x.ahead(years, risk, seed, n), model.ahead(years, risk, seed, n), years, risk, seed, n);
                break;
            }
            default: {
                int year = some(21);
                int what = some(4);
                is("after", x.after(year, what), model.after(year, what), year, what);
            }
        }
    }
}
