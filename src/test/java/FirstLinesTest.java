import java.util.ArrayDeque;
import java.util.Arrays;
import java.util.Random;

/**
 * What the document's first lines say of the whole: the steps are found once for all right sides
 * and costs, a plan is a best one just if none of them betters it, all plans are walked. Held over
 * systems drawn with a fixed seed; no model is asked, the answers must agree with one another.
 */
public final class FirstLinesTest {
    private static final int MOST_PLANS = 60;
    private static final int MOST_CALLS = 512;
    private static int wrong;
    private static int systems;

    private final Random random;
    private final int n;
    private final int[][] rows;
    private final int[] rights;
    private final int[] lows;
    private final int[] highs;
    private final int[] prices;
    private final int[] bends;
    private StepWorks works;
    private int calls;

    public static void main(String[] args) {
        int most = args.length > 0 ? Integer.parseInt(args[0]) : 1000;
        for (int seed = 0; systems < most && wrong == 0 && seed < 100 * most; seed++) {
            new FirstLinesTest(new Random(seed)).holdAll(seed);
        }
        System.out.println("FirstLinesTest: " + systems + " systems, " + (wrong == 0 ? "all hold" : "wrong"));
        System.exit(wrong == 0 && systems == most ? 0 : 1);
    }

    /** A system with right sides that some vector within the bounds gives. */
    private FirstLinesTest(Random random) {
        this.random = random;
        n = 1 + random.nextInt(4);
        rows = new int[random.nextInt(4)][n];
        rights = new int[rows.length];
        lows = new int[n];
        highs = new int[n];
        prices = new int[n];
        bends = new int[n];
        int widest = random.nextBoolean() ? 3 : 20;
        int size = 1 + random.nextInt(6);
        for (int u = 0; u < n; u++) {
            lows[u] = random.nextInt(11) - 10;
            highs[u] = Math.min(10, lows[u] + random.nextInt(widest + 1));
            prices[u] = random.nextInt(199) - 99;
            bends[u] = random.nextInt(3) * random.nextInt(50);
            int number = lows[u] + random.nextInt(highs[u] - lows[u] + 1);
            for (int e = 0; e < rows.length; e++) {
                rows[e][u] = random.nextInt(2 * size + 1) - size;
                rights[e] += rows[e][u] * number;
            }
        }
    }

    private void holdAll(int seed) {
        begin();
        int plans = works.plans();
        boolean met = true;
        for (int right : rights) {
            met &= Math.abs(right) <= 200;
        }
        if (plans > MOST_PLANS || !met) {
            return;
        }
        systems++;
        hold(plans > 0, seed, "the vector that gave the right sides is a plan");
        hold(stepsStay(), seed, "steps are the same for all right sides, bounds and costs");
        for (int i = 0; i < plans; i++) {
            hold(isBestJustIfNoneBetters(i), seed, "plan " + i + " is best just if none betters it");
            hold(bestEndsAtTheLeastCost(i), seed, "from plan " + i + " a best one is reached");
            hold(splitUsesAllUp(i, random.nextInt(plans)), seed, "a split from plan " + i);
        }
        hold(walkedFromFirst(plans) == plans, seed, "all plans are walked by least steps");
    }

    private static void hold(boolean holds, int seed, String what) {
        if (!holds) {
            wrong++;
            System.out.println("seed " + seed + ": does not hold: " + what);
        }
    }

    private void begin() {
        works = new StepWorks();
        calls = 0;
        works.works(n);
        for (int e = 0; e < rows.length; e++) {
            works.equation();
            for (int u = 0; u < n; u++) {
                works.put(e, u, rows[e][u]);
            }
            works.right(e, rights[e]);
        }
        for (int u = 0; u < n; u++) {
            works.bound(u, lows[u], highs[u]);
            works.price(u, prices[u], bends[u]);
        }
        calls += 1 + rows.length * (n + 2) + 2 * n;
    }

    /** No object is used for more calls than the document allows. */
    private void beginIfUsedUp(int more) {
        if (calls + more > MOST_CALLS) {
            begin();
        }
        calls += more;
    }

    private int[][] allSteps() {
        begin();
        int[][] steps = new int[works.least()][n];
        calls++;
        for (int i = 0; i < steps.length; i++) {
            for (int u = 0; u < n; u++) {
                beginIfUsedUp(1);
                steps[i][u] = works.step(i, u);
            }
        }
        return steps;
    }

    private boolean stepsStay() {
        int[][] steps = allSteps();
        begin();
        works.least();
        for (int e = 0; e < rows.length; e++) {
            works.right(e, random.nextInt(401) - 200);
        }
        for (int u = 0; u < n; u++) {
            works.bound(u, random.nextInt(21) - 10, random.nextInt(21) - 10);
            works.price(u, random.nextInt(199) - 99, random.nextInt(100));
        }
        boolean same = works.least() == steps.length;
        calls += 2 + rows.length + 2 * n;
        for (int k = 0; k < 80 && same && steps.length > 0; k++) {
            int i = random.nextInt(steps.length);
            int u = random.nextInt(n);
            same = works.step(i, u) == steps[i][u];
        }
        begin();
        return same;
    }

    private boolean isBestJustIfNoneBetters(int i) {
        beginIfUsedUp(6);
        works.take(works.extreme(0));
        long least = works.cost();
        works.take(i);
        boolean isBest = works.cost() == least;
        return isBest == (works.better() == StepWorks.NONE);
    }

    private boolean bestEndsAtTheLeastCost(int i) {
        beginIfUsedUp(8);
        works.take(works.extreme(0));
        long least = works.cost();
        works.take(i);
        long before = works.cost();
        int times = works.best();
        return works.cost() == least && (times > 0) == (before > least) && works.what() >= 2;
    }

    /** The amounts of the way from one plan to another make up that way, none against its signs. */
    private boolean splitUsesAllUp(int i, int j) {
        int[][] steps = allSteps();
        begin();
        works.take(i);
        works.less(j);
        int[] hand = new int[n];
        for (int u = 0; u < n; u++) {
            hand[u] = works.has(u);
        }
        int sum = works.count(6);
        calls += 3 + n;
        if (i == j) {
            return sum == 0 && Arrays.equals(hand, new int[n]);
        }
        int[] left = hand.clone();
        for (int s = 0; s < steps.length; s++) {
            int amount = works.split(s);
            sum -= amount;
            if (amount < 0 || (amount > 0 && works.fits(s) != 1)) {
                return false;
            }
            for (int u = 0; u < n; u++) {
                left[u] -= amount * steps[s][u];
            }
        }
        begin();
        return sum == 0 && Arrays.equals(left, new int[n]);
    }

    /** How many plans are reached from plan 0, one least step at a time. */
    private int walkedFromFirst(int plans) {
        int steps = works.least();
        boolean[] seen = new boolean[plans];
        ArrayDeque<Integer> ahead = new ArrayDeque<>();
        ahead.add(0);
        seen[0] = true;
        int walked = 0;
        while (!ahead.isEmpty()) {
            int from = ahead.remove();
            walked++;
            begin();
            int near = 0;
            for (int s = 0; s < steps; s++) {
                works.take(from);
                works.add(s, 1);
                int there = works.find();
                if (there >= 0) {
                    near++;
                    if (!seen[there]) {
                        seen[there] = true;
                        ahead.add(there);
                    }
                }
            }
            if (works.near(from) != near) {
                return -1;
            }
        }
        return walked;
    }
}
