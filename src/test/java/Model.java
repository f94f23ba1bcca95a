import java.math.BigInteger;
import java.util.ArrayList;
import java.util.Arrays;
import java.util.HashSet;
import java.util.List;
import java.util.Set;

/** A second writing of the document, slow and plain: every set of animals is looked at anew by each call. */
final class Model {
    private static final BigInteger WRAP = BigInteger.ONE.shiftLeft(64);

    private final List<int[]> animals = new ArrayList<>();
    private final int[][] kin = new int[12][12];
    private final Set<String> barred = new HashSet<>();
    private final int[] least = new int[8];
    private int limit = 1000;
    private int most = 0;
    private List<int[]> choice = new ArrayList<>();
    private int choiceSets = 0;
    private int[] eggs = new int[0];
    private List<int[]> years = new ArrayList<>();

    private static boolean outside(int v, int from, int to) {
        return v < from || v > to;
    }

    private boolean unknown(int a) {
        return outside(a, 0, animals.size() - 1);
    }

    private void noChoice() {
        choice = new ArrayList<>();
    }

    int animal(int sex, int worth, int family) {
        if (outside(sex, 0, 1) || outside(worth, -10000, 10000) || outside(family, 0, 7)) return -2;
        if (animals.size() == 12) return -4;
        animals.add(new int[] {sex, worth, family});
        noChoice();
        return animals.size() - 1;
    }

    int worth(int animal, int v) {
        if (unknown(animal)) return -20000;
        if (outside(v, -10000, 10000)) return -20001;
        int was = animals.get(animal)[1];
        animals.get(animal)[1] = v;
        if (was != v) noChoice();
        return was;
    }

    int kin(int a, int b, int v) {
        if (unknown(a) || unknown(b)) return -1;
        if (outside(v, 0, 1000)) return -2;
        int was = kin[Math.max(a, b)][Math.min(a, b)];
        kin[Math.max(a, b)][Math.min(a, b)] = v;
        if (was != v) noChoice();
        return was;
    }

    private static String both(int a, int b) {
        return Math.min(a, b) + " " + Math.max(a, b);
    }

    boolean bar(int a, int b, boolean on) {
        if (unknown(a) || unknown(b) || animals.get(a)[0] == animals.get(b)[0]) return false;
        boolean isNew = on ? barred.add(both(a, b)) : barred.remove(both(a, b));
        if (isNew) noChoice();
        return isNew;
    }

    int limit(int v) {
        if (outside(v, 0, 1000)) return -2;
        int was = limit;
        limit = v;
        if (was != v) noChoice();
        return was;
    }

    int even(int v) {
        if (outside(v, 0, 12)) return -2;
        int was = most;
        most = v;
        if (was != v) noChoice();
        return was;
    }

    int line(int family, int v) {
        if (outside(family, 0, 7)) return -1;
        if (outside(v, 0, 12)) return -2;
        int was = least[family];
        least[family] = v;
        if (was != v) noChoice();
        return was;
    }

    int run(int n) {
        if (outside(n, 1, 6)) return -2;
        List<List<Integer>> sets = setsThatMayBe(n);
        noChoice();
        if (sets.isEmpty()) return 0;
        choice = pairs(best(sets));
        choiceSets = sets.size();
        eggs = new int[n];
        return n;
    }

    int pairOf(int k, int which) {
        if (outside(k, 0, choice.size() - 1)) return -1;
        if (outside(which, 0, 1)) return -2;
        return choice.get(k)[which];
    }

    int told(int what) {
        if (outside(what, 0, 3)) return -2;
        if (choice.isEmpty()) return -3;
        List<Integer> set = chosen();
        return new int[] {worthOf(set), kinOf(set), choice.size(), choiceSets}[what];
    }

    int eggs(int n) {
        if (outside(n, 0, 100000)) return -2;
        if (choice.isEmpty()) return -3;
        int pairs = choice.size();
        long[] points = new long[pairs];
        long lowest = Long.MAX_VALUE;
        for (int k = 0; k < pairs; k++) {
            points[k] = animals.get(choice.get(k)[0])[1] + animals.get(choice.get(k)[1])[1];
            lowest = Math.min(lowest, points[k]);
        }
        long all = 0;
        for (int k = 0; k < pairs; k++) {
            points[k] += 1 - lowest;
            all += points[k];
        }
        Integer[] byRest = new Integer[pairs];
        long left = n;
        for (int k = 0; k < pairs; k++) {
            byRest[k] = k;
            eggs[k] = (int) (n * points[k] / all);
            left -= eggs[k];
        }
        long sum = all;
        Arrays.sort(byRest, (j, k) -> Long.compare(n * points[k] % sum, n * points[j] % sum));
        for (int i = 0; i < left; i++) eggs[byRest[i]]++;
        return eggs[0];
    }

    int eggsOf(int k) {
        return outside(k, 0, choice.size() - 1) ? -1 : eggs[k];
    }

    int backUp(int k) {
        if (outside(k, 0, choice.size() - 1)) return -1;
        int best = -3;
        for (int m = animals.size() - 1; m >= 0; m--) {
            List<Integer> set = chosen();
            if (animals.get(m)[0] != 0 || set.contains(m) || barred.contains(both(m, choice.get(k)[1]))) continue;
            set.remove((Integer) choice.get(k)[0]);
            set.add(m);
            if (keepsNumbers(set) && (best < 0 || animals.get(m)[1] >= animals.get(best)[1])) best = m;
        }
        return best;
    }

    int test(int n, int d) {
        if (outside(n, 1, 6) || outside(d, 1, 10000)) return -2;
        List<List<Integer>> sets = setsThatMayBe(n);
        if (sets.isEmpty()) return -3;
        int best = -1;
        int bestSum = 0;
        for (int a = 0; a < animals.size(); a++) {
            int[] it = animals.get(a);
            int was = it[1];
            it[1] = was + d;
            int sum = worthOf(best(sets));
            it[1] = was - d;
            sum += worthOf(best(sets));
            it[1] = was;
            if (best < 0 || sum > bestSum) {
                best = a;
                bestSum = sum;
            }
        }
        return best;
    }

    int ahead(int howMany, int risk, long seed, int n) {
        if (outside(howMany, 1, 20) || outside(risk, 0, 1000) || outside(n, 1, 6)) return -2;
        List<List<Integer>> sets = setsThatMayBe(n);
        List<Integer> alive = new ArrayList<>();
        for (int a = 0; a < animals.size(); a++) alive.add(a);
        years = new ArrayList<>();
        for (int y = 0; y < howMany; y++) {
            int year = y;
            alive.removeIf(a -> dies(seed, year, a, risk));
            sets.removeIf(set -> !alive.containsAll(set));
            years.add(new int[] {alive.size(), sets.isEmpty() ? 0 : 1, sets.isEmpty() ? 0 : worthOf(best(sets))});
        }
        return alive.size();
    }

    int after(int year, int what) {
        if (outside(year, 0, years.size() - 1)) return -1;
        return outside(what, 0, 2) ? -2 : years.get(year)[what];
    }

    /** The longs that run over, as numbers without a sign and without an end, cut at 64 bits. */
    private static boolean dies(long seed, int y, int a, int risk) {
        BigInteger z = BigInteger.valueOf(seed).add(BigInteger.valueOf(16L * y + a + 1)).mod(WRAP);
        z = z.multiply(new BigInteger("9E3779B97F4A7C15", 16)).mod(WRAP);
        z = z.xor(z.shiftRight(29)).multiply(new BigInteger("BF58476D1CE4E5B9", 16)).mod(WRAP);
        return z.shiftRight(33).mod(BigInteger.valueOf(1000)).intValue() < risk;
    }

    private List<Integer> chosen() {
        List<Integer> set = new ArrayList<>();
        for (int[] pair : choice) {
            set.add(pair[0]);
            set.add(pair[1]);
        }
        return set;
    }

    private int worthOf(List<Integer> set) {
        int sum = 0;
        for (int a : set) sum += animals.get(a)[1];
        return sum;
    }

    private int kinOf(List<Integer> set) {
        int sum = 0;
        for (int a : set) {
            for (int b : set) sum += kin[Math.max(a, b)][Math.min(a, b)];
        }
        return sum;
    }

    private boolean keepsNumbers(List<Integer> set) {
        int[] of = new int[8];
        for (int a : set) of[animals.get(a)[2]]++;
        for (int f = 0; f < 8; f++) {
            if (of[f] < least[f] || most != 0 && of[f] > most) return false;
        }
        int n = set.size() / 2;
        return kinOf(set) <= 4 * n * n * limit;
    }

    private List<List<Integer>> setsThatMayBe(int n) {
        List<List<Integer>> sets = new ArrayList<>();
        for (int bits = 0; bits < 1 << animals.size(); bits++) {
            List<Integer> set = new ArrayList<>();
            int males = 0;
            for (int a = 0; a < animals.size(); a++) {
                if ((bits >> a & 1) != 0) {
                    set.add(a);
                    males += 1 - animals.get(a)[0];
                }
            }
            if (males == n && set.size() == 2 * n && keepsNumbers(set) && pairs(set) != null) sets.add(set);
        }
        return sets;
    }

    /** The sets hold their animals in order, so the first number in which two differ decides between equals. */
    private List<Integer> best(List<List<Integer>> sets) {
        List<Integer> best = sets.get(0);
        for (List<Integer> set : sets) {
            int more = Integer.compare(worthOf(set), worthOf(best));
            for (int i = 0; more == 0 && i < set.size(); i++) more = Integer.compare(best.get(i), set.get(i));
            if (more > 0) best = set;
        }
        return best;
    }

    /** All ways to pair are looked at: the least of them, or null. */
    private List<int[]> pairs(List<Integer> set) {
        List<Integer> males = new ArrayList<>();
        List<Integer> females = new ArrayList<>();
        for (int a : set) (animals.get(a)[0] == 0 ? males : females).add(a);
        return pairs(males, females);
    }

    private List<int[]> pairs(List<Integer> males, List<Integer> females) {
        if (males.isEmpty()) return new ArrayList<>();
        for (int f : females) {
            if (barred.contains(both(males.get(0), f))) continue;
            List<Integer> others = new ArrayList<>(females);
            others.remove((Integer) f);
            List<int[]> rest = pairs(males.subList(1, males.size()), others);
            if (rest != null) {
                rest.add(0, new int[] {males.get(0), f});
                return rest;
            }
        }
        return null;
    }
}
