import java.util.ArrayList;
import java.util.Arrays;
import java.util.Comparator;
import java.util.List;

/**
 * The document done again in the plainest way, to hold StepWorks against: vectors are tried one by
 * one, nothing is clever, nothing is shared with the class under test.
 */
final class NaiveModel {
    static final int NONE = -99999;

    private int n;
    private final List<int[]> equations = new ArrayList<>();
    private final List<Integer> rights = new ArrayList<>();
    private int[] low;
    private int[] high;
    private int[] price;
    private int[] bend;
    private int[] hand;
    private final long[][] trays = new long[4][];
    private final int[] sorts = new int[4];
    private final int[] refusals = new int[8];
    private List<int[]> steps;
    private List<int[]> plans;

    NaiveModel() {
        begin(1);
    }

    private void begin(int unknowns) {
        n = unknowns;
        equations.clear();
        rights.clear();
        low = new int[n];
        high = new int[n];
        Arrays.fill(high, 10);
        price = new int[n];
        bend = new int[n];
        hand = new int[n];
        forget();
    }

    private void forget() {
        steps = null;
        plans = null;
    }

    private int refuse(int why) {
        refusals[-why]++;
        return why;
    }

    private boolean unknown(int u) {
        return u >= 0 && u < n;
    }

    int works(int unknowns) {
        if (unknowns < 1) {
            return refuse(-4);
        }
        if (unknowns > 4) {
            return refuse(-6);
        }
        begin(unknowns);
        return 1;
    }

    int equation() {
        if (equations.size() == 3) {
            return refuse(-6);
        }
        equations.add(new int[n]);
        rights.add(0);
        forget();
        return equations.size() - 1;
    }

    int put(int e, int u, int v) {
        if (e < 0 || e >= equations.size() || !unknown(u)) {
            return refuse(-1);
        }
        if (v < -6) {
            return refuse(-4);
        }
        if (v > 6) {
            return refuse(-6);
        }
        int was = equations.get(e)[u];
        equations.get(e)[u] = v;
        forget();
        return was;
    }

    int right(int e, int v) {
        if (e < 0 || e >= equations.size()) {
            return refuse(-1);
        }
        if (v < -200) {
            return refuse(-4);
        }
        if (v > 200) {
            return refuse(-6);
        }
        plans = null;
        return rights.set(e, v);
    }

    int bound(int u, int lowest, int highest) {
        if (!unknown(u)) {
            return refuse(-1);
        }
        if (Math.min(lowest, highest) < -10) {
            return refuse(-4);
        }
        if (Math.max(lowest, highest) > 10) {
            return refuse(-6);
        }
        low[u] = lowest;
        high[u] = highest;
        plans = null;
        return 1;
    }

    int price(int u, int p, int b) {
        if (!unknown(u)) {
            return refuse(-1);
        }
        if (p < -99 || b < 0) {
            return refuse(-4);
        }
        if (p > 99 || b > 99) {
            return refuse(-6);
        }
        price[u] = p;
        bend[u] = b;
        return 1;
    }

    int tray(int t, int sort, int size) {
        if (t < 0 || t > 3) {
            return refuse(-1);
        }
        if (sort < 0 || sort > 3) {
            return refuse(-2);
        }
        if (size < 0) {
            return refuse(-4);
        }
        if (size > 20) {
            return refuse(-6);
        }
        trays[t] = new long[size];
        sorts[t] = sort;
        return 1;
    }

    int cell(int t, int i, long v) {
        if (t < 0 || t > 3) {
            return refuse(-1);
        }
        if (trays[t] == null) {
            return refuse(-7);
        }
        if (i < 0 || i >= trays[t].length) {
            return refuse(-3);
        }
        int bits = 8 << sorts[t];
        trays[t][i] = v << (64 - bits) >> (64 - bits);
        return 1;
    }

    int copy(int t, int i, int d, int size) {
        if (t < 0 || t > 3 || d < 0 || d > 3) {
            return refuse(-1);
        }
        if (trays[t] == null || trays[d] == null) {
            return refuse(-7);
        }
        if (sorts[t] != sorts[d]) {
            return refuse(-2);
        }
        if (size < 0) {
            return refuse(-4);
        }
        if (i < 0 || (long) i + size > trays[t].length || size > trays[d].length) {
            return refuse(-3);
        }
        long[] from = trays[d].clone();
        for (int k = 0; k < size; k++) {
            trays[t][i + k] = from[k];
        }
        return 1;
    }

    int lay(int e, int t, int place) {
        if (t < 0 || t > 3 || e < 0 || e >= equations.size()) {
            return refuse(-1);
        }
        if (trays[t] == null) {
            return refuse(-7);
        }
        if (place < 0 || place > trays[t].length) {
            return refuse(-3);
        }
        long[] laid = Arrays.copyOfRange(trays[t], place, place + n);
        if (Arrays.stream(laid).min().getAsLong() < -6) {
            return refuse(-4);
        }
        if (Arrays.stream(laid).max().getAsLong() > 6) {
            return refuse(-6);
        }
        for (int u = 0; u < n; u++) {
            equations.get(e)[u] = (int) laid[u];
        }
        forget();
        return 1;
    }

    int least() {
        return steps().size();
    }

    int step(int i, int u) {
        return i < 0 || i >= least() || !unknown(u) ? NONE : steps().get(i)[u];
    }

    int kind(int i) {
        if (i < 0 || i >= least()) {
            return 0;
        }
        int[] s = steps().get(i);
        boolean round = true;
        for (int[] other : steps()) {
            boolean within = true;
            boolean smaller = false;
            for (int u = 0; u < n; u++) {
                within &= s[u] != 0 || other[u] == 0;
                smaller |= s[u] != 0 && other[u] == 0;
            }
            round &= !(within && smaller);
        }
        return round ? 3 : Arrays.stream(s).allMatch(v -> v >= 0) ? 2 : 1;
    }

    int back(int i) {
        if (i < 0 || i >= least()) {
            return refuse(-1);
        }
        int[] turned = Arrays.stream(steps().get(i)).map(v -> -v).toArray();
        for (int k = 0; k < least(); k++) {
            if (Arrays.equals(steps().get(k), turned)) {
                return k;
            }
        }
        throw new IllegalStateException("a step without its back");
    }

    int hand(int u, int v) {
        if (!unknown(u)) {
            refuse(-1);
            return NONE;
        }
        if (v < -10000) {
            refuse(-4);
            return NONE;
        }
        if (v > 10000) {
            refuse(-6);
            return NONE;
        }
        int was = hand[u];
        hand[u] = v;
        return was;
    }

    int has(int u) {
        return unknown(u) ? hand[u] : NONE;
    }

    int what() {
        return (isStep(hand) ? 1 : 0) + (isPlan(hand) ? 2 : 0);
    }

    int fits(int i) {
        if (i < 0 || i >= least()) {
            return refuse(-1);
        }
        return within(steps().get(i), hand) ? 1 : 0;
    }

    int split(int i) {
        if (i < 0 || i >= least()) {
            return refuse(-1);
        }
        return isStep(hand) ? amounts()[i] : refuse(-5);
    }

    int add(int i, int t) {
        if (i < 0 || i >= least()) {
            return refuse(-1);
        }
        return move(steps().get(i), t);
    }

    long cost() {
        return costOf(hand);
    }

    int better() {
        if (!isPlan(hand)) {
            return refuse(-5);
        }
        int found = NONE;
        long least = costOf(hand);
        int[] to = hand;
        for (int i = 0; i < least(); i++) {
            for (int t = 1; t <= 21; t++) {
                int[] there = hand.clone();
                for (int u = 0; u < n; u++) {
                    there[u] += t * steps().get(i)[u];
                }
                if (isPlan(there) && costOf(there) < least) {
                    found = i;
                    least = costOf(there);
                    to = there;
                }
            }
        }
        hand = to.clone();
        return found;
    }

    int best() {
        if (!isPlan(hand)) {
            return refuse(-5);
        }
        int times = 0;
        while (better() != NONE) {
            times++;
        }
        return times;
    }

    int plans() {
        return allPlans().size();
    }

    int plan(int i, int u) {
        return i < 0 || i >= plans() || !unknown(u) ? NONE : allPlans().get(i)[u];
    }

    int take(int i) {
        if (i < 0 || i >= plans()) {
            return refuse(-1);
        }
        hand = allPlans().get(i).clone();
        return 1;
    }

    int less(int i) {
        if (i < 0 || i >= plans()) {
            return refuse(-1);
        }
        return move(allPlans().get(i), -1);
    }

    int find() {
        if (!isPlan(hand)) {
            return refuse(-5);
        }
        for (int i = 0; i < plans(); i++) {
            if (Arrays.equals(allPlans().get(i), hand)) {
                return i;
            }
        }
        throw new IllegalStateException("a plan without a number");
    }

    int span(int u, int what) {
        if (plans() == 0 || !unknown(u) || what < 0 || what > 1) {
            return NONE;
        }
        return what == 0
            ? allPlans().stream().mapToInt(p -> p[u]).min().getAsInt()
            : allPlans().stream().mapToInt(p -> p[u]).max().getAsInt();
    }

    int extreme(int what) {
        if (plans() == 0) {
            return -1;
        }
        if (what < 0 || what > 1) {
            return -2;
        }
        int found = 0;
        for (int i = 1; i < plans(); i++) {
            long here = costOf(allPlans().get(i));
            long there = costOf(allPlans().get(found));
            if (what == 0 ? here < there : here > there) {
                found = i;
            }
        }
        return found;
    }

    int near(int i) {
        if (i < 0 || i >= plans()) {
            return refuse(-1);
        }
        int found = 0;
        for (int[] s : steps()) {
            int[] there = allPlans().get(i).clone();
            for (int u = 0; u < n; u++) {
                there[u] += s[u];
            }
            found += isPlan(there) ? 1 : 0;
        }
        return found;
    }

    int count(int what) {
        if (what >= 2 && what <= 4) {
            int found = 0;
            for (int i = 0; i < least(); i++) {
                found += kind(i) == what - 1 ? 1 : 0;
            }
            return found;
        }
        if (what >= 11 && what <= 17) {
            return refusals[what - 10];
        }
        if (what == 5) {
            return Arrays.stream(trays).mapToInt(t -> t == null ? 0 : t.length).sum();
        }
        if (what == 6) {
            return isStep(hand) ? Arrays.stream(amounts()).sum() : 0;
        }
        return what == 0 ? n : what == 1 ? equations.size() : NONE;
    }

    private int move(int[] by, int t) {
        long[] there = new long[n];
        for (int u = 0; u < n; u++) {
            there[u] = hand[u] + (long) t * by[u];
        }
        if (Arrays.stream(there).min().getAsLong() < -10000) {
            return refuse(-4);
        }
        if (Arrays.stream(there).max().getAsLong() > 10000) {
            return refuse(-6);
        }
        hand = Arrays.stream(there).mapToInt(v -> (int) v).toArray();
        return 1;
    }

    private int sum(int[] coefficients, int[] vector) {
        int sum = 0;
        for (int u = 0; u < n; u++) {
            sum += coefficients[u] * vector[u];
        }
        return sum;
    }

    private boolean isStep(int[] vector) {
        return Arrays.stream(vector).anyMatch(v -> v != 0)
            && equations.stream().allMatch(e -> sum(e, vector) == 0);
    }

    private boolean isPlan(int[] vector) {
        for (int u = 0; u < n; u++) {
            if (vector[u] < low[u] || vector[u] > high[u]) {
                return false;
            }
        }
        for (int e = 0; e < equations.size(); e++) {
            if (sum(equations.get(e), vector) != rights.get(e)) {
                return false;
            }
        }
        return true;
    }

    private long costOf(int[] vector) {
        long sum = 0;
        for (int u = 0; u < n; u++) {
            sum += (long) price[u] * vector[u] + (long) bend[u] * vector[u] * vector[u];
        }
        return sum;
    }

    private static boolean within(int[] inner, int[] outer) {
        for (int u = 0; u < inner.length; u++) {
            int i = inner[u];
            int o = outer[u];
            if (i > 0 && o < i || i < 0 && o > i) {
                return false;
            }
        }
        return true;
    }

    private int[] amounts() {
        int[] left = hand.clone();
        int[] amounts = new int[least()];
        for (int i = 0; i < amounts.length; i++) {
            int[] s = steps().get(i);
            while (within(s, left)) {
                amounts[i]++;
                for (int u = 0; u < n; u++) {
                    left[u] -= s[u];
                }
            }
        }
        if (Arrays.stream(left).anyMatch(v -> v != 0)) {
            throw new IllegalStateException("a split that leaves something");
        }
        return amounts;
    }

    private List<int[]> allPlans() {
        if (plans == null) {
            plans = new ArrayList<>();
            tryPlans(new int[n], 0);
        }
        return plans;
    }

    private void tryPlans(int[] vector, int u) {
        if (u == n) {
            if (isPlan(vector)) {
                plans.add(vector.clone());
            }
            return;
        }
        for (int v = low[u]; v <= high[u]; v++) {
            vector[u] = v;
            tryPlans(vector, u + 1);
        }
    }

    private List<int[]> steps() {
        if (steps == null) {
            steps = leastSteps(n, equations);
        }
        return steps;
    }

    /**
     * No number of a least step is beyond so many times the greatest minor as there are dimensions
     * (for one equation: not beyond 6; for none: not beyond 1), so all vectors so far are tried: the
     * unknowns that the equations do not bind take all numbers, the others follow.
     */
    static List<int[]> leastSteps(int n, List<int[]> equations) {
        double[][] rows = new double[equations.size()][];
        for (int e = 0; e < rows.length; e++) {
            rows[e] = Arrays.stream(equations.get(e)).asDoubleStream().toArray();
        }
        int[] pivotOf = new int[n];
        Arrays.fill(pivotOf, -1);
        int rank = eliminate(rows, n, pivotOf);
        int[] reach = {1, 6, n == 4 ? 144 : 72, 864};
        List<int[]> tried = new ArrayList<>();
        int[] free = java.util.stream.IntStream.range(0, n).filter(u -> pivotOf[u] < 0).toArray();
        tryFree(new int[n], free, 0, reach[rank], rows, pivotOf, equations, tried);
        tried.sort(Comparator.comparingInt(v -> Arrays.stream(v).map(Math::abs).sum()));
        List<int[]> least = new ArrayList<>();
        for (int[] v : tried) {
            boolean made = false;
            for (int k = 0; k < least.size() && !made; k++) {
                made = within(least.get(k), v);
            }
            if (!made) {
                least.add(v);
            }
        }
        least.sort(Arrays::compare);
        return least;
    }

    private static int eliminate(double[][] rows, int n, int[] pivotOf) {
        int rank = 0;
        for (int u = 0; u < n && rank < rows.length; u++) {
            int p = rank;
            for (int e = rank; e < rows.length; e++) {
                p = Math.abs(rows[e][u]) > Math.abs(rows[p][u]) ? e : p;
            }
            if (Math.abs(rows[p][u]) < 1e-9) {
                continue;
            }
            double[] row = rows[p];
            rows[p] = rows[rank];
            rows[rank] = row;
            double by = row[u];
            for (int v = 0; v < n; v++) {
                row[v] /= by;
            }
            for (int e = 0; e < rows.length; e++) {
                double times = rows[e][u];
                for (int v = 0; v < n && e != rank; v++) {
                    rows[e][v] -= times * row[v];
                }
            }
            pivotOf[u] = rank;
            rank++;
        }
        return rank;
    }

    private static void tryFree(int[] vector, int[] free, int at, int reach, double[][] rows,
            int[] pivotOf, List<int[]> equations, List<int[]> tried) {
        if (at < free.length) {
            for (int v = -reach; v <= reach; v++) {
                vector[free[at]] = v;
                tryFree(vector, free, at + 1, reach, rows, pivotOf, equations, tried);
            }
            return;
        }
        int[] whole = vector.clone();
        boolean moves = false;
        for (int u = 0; u < whole.length; u++) {
            if (pivotOf[u] >= 0) {
                double value = 0;
                for (int f : free) {
                    value -= rows[pivotOf[u]][f] * vector[f];
                }
                whole[u] = (int) Math.round(value);
            }
            moves |= whole[u] != 0;
            if (Math.abs(whole[u]) > reach) {
                return;
            }
        }
        for (int[] e : equations) {
            int sum = 0;
            for (int u = 0; u < whole.length; u++) {
                sum += e[u] * whole[u];
            }
            moves &= sum == 0;
        }
        if (moves) {
            tried.add(whole);
        }
    }
}
