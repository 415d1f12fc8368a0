import java.util.Random;

/** Long runs of calls, drawn with fixed seeds, each answered by StepWorks and by NaiveModel. */
public final class RandomRunsTest {
    private static final String[] CALLS = {
        "works", "equation", "put", "put", "put", "right", "bound", "price", "price", "tray", "cell", "cell",
        "copy", "lay", "least", "step", "step", "kind", "back", "hand", "hand", "has", "what", "fits",
        "split", "add", "cost", "better", "best", "plans", "plan", "take", "take", "less", "find",
        "span", "extreme", "near", "count", "refusals", "solvable", "stepInHand"
    };

    private final Random random;
    private final StepWorks works = new StepWorks();
    private final NaiveModel naive = new NaiveModel();
    private final StringBuilder told = new StringBuilder();
    private int wrong;

    private RandomRunsTest(long seed) {
        random = new Random(seed);
    }

    public static void main(String[] args) {
        int runs = args.length > 0 ? Integer.parseInt(args[0]) : 400;
        int wrong = 0;
        for (int run = 0; run < runs && wrong == 0; run++) {
            RandomRunsTest test = new RandomRunsTest(run);
            test.run();
            wrong += test.wrong;
            if (test.wrong > 0) {
                System.out.println("run " + run + ":\n" + test.told);
            }
        }
        System.out.println(wrong == 0 ? "RandomRunsTest: all answers agree" : "RandomRunsTest: wrong");
        System.exit(wrong == 0 ? 0 : 1);
    }

    private void due(String call, long got, long want) {
        told.append(call).append(" = ").append(got).append('\n');
        if (got != want) {
            wrong++;
            told.append("  due is ").append(want).append('\n');
        }
    }

    /** Mostly within, now and then one or far beyond. */
    private int draw(int from, int to) {
        int dice = random.nextInt(60);
        if (dice == 0) {
            return from - 1;
        }
        if (dice == 1) {
            return to + 1;
        }
        if (dice == 2) {
            return random.nextInt();
        }
        return from + random.nextInt(Math.max(1, to - from + 1));
    }

    private void run() {
        int calls = 0;
        int rare = random.nextInt(3);
        while (calls < 500 && wrong == 0) {
            String call = CALLS[random.nextInt(CALLS.length)];
            if (call.equals("works") && random.nextInt(4) > 0) {
                continue;
            }
            boolean changes = call.equals("put") || call.equals("lay") || call.equals("equation");
            if (changes && rare > 0 && random.nextInt(3) > 0) {
                continue;
            }
            calls += once(call);
        }
    }

    private int once(String call) {
        int n = naive.count(0);
        int e = draw(0, Math.max(0, naive.count(1) - 1));
        int u = draw(0, n - 1);
        switch (call) {
            case "works": { int a = draw(1, 4); due("works(" + a + ")", works.works(a), naive.works(a)); return 1; }
            case "equation": due("equation()", works.equation(), naive.equation()); return 1;
            case "put": { int v = random.nextInt(3) == 0 ? draw(-2, 2) : draw(-6, 6);
                due("put(" + e + ", " + u + ", " + v + ")", works.put(e, u, v), naive.put(e, u, v)); return 1; }
            case "right": { int v = random.nextBoolean() ? draw(-20, 20) : draw(-200, 200);
                due("right(" + e + ", " + v + ")", works.right(e, v), naive.right(e, v)); return 1; }
            case "bound": { int a = draw(-10, 4); int b = draw(-2, 10);
                due("bound(" + u + ", " + a + ", " + b + ")", works.bound(u, a, b), naive.bound(u, a, b)); return 1; }
            case "price": { int a = draw(-99, 99); int b = random.nextBoolean() ? draw(0, 5) : draw(0, 99);
                due("price(" + u + ", " + a + ", " + b + ")", works.price(u, a, b), naive.price(u, a, b)); return 1; }
            default: return onceMore(call, n, e, u);
        }
    }

    private int onceMore(String call, int n, int e, int u) {
        int t = draw(0, 3);
        switch (call) {
            case "tray": { int a = random.nextInt(3) > 0 ? 0 : draw(0, 3); int b = random.nextBoolean() ? draw(0, 20) : draw(0, 4);
                due("tray(" + t + ", " + a + ", " + b + ")", works.tray(t, a, b), naive.tray(t, a, b)); return 1; }
            case "cell": { int i = random.nextBoolean() ? draw(0, 3) : draw(0, 20);
                long v = (long) random.nextInt() << 32 | (draw(-7, 6) & 0xffffffffL);
                if (random.nextInt(4) > 0) { v = (int) v; }
                due("cell(" + t + ", " + i + ", " + v + ")", works.cell(t, i, v), naive.cell(t, i, v)); return 1; }
            case "copy": { int i = random.nextBoolean() ? draw(0, 2) : draw(0, 20); int d = draw(0, 3); int k = draw(0, 6);
                due("copy(" + t + ", " + i + ", " + d + ", " + k + ")", works.copy(t, i, d, k), naive.copy(t, i, d, k)); return 1; }
            case "lay": { int i = random.nextBoolean() ? draw(0, 2) : draw(0, 20);
                due("lay(" + e + ", " + t + ", " + i + ")", works.lay(e, t, i), naive.lay(e, t, i)); return 1; }
            case "hand": { int v = random.nextBoolean() ? draw(-10, 10) : draw(-10000, 10000);
                due("hand(" + u + ", " + v + ")", works.hand(u, v), naive.hand(u, v)); return 1; }
            case "has": due("has(" + u + ")", works.has(u), naive.has(u)); return 1;
            case "what": due("what()", works.what(), naive.what()); return 1;
            case "cost": due("cost()", works.cost(), naive.cost()); return 1;
            case "better": due("better()", works.better(), naive.better()); return allOfHand(n);
            case "best": due("best()", works.best(), naive.best()); return allOfHand(n);
            case "count": { int a = draw(-1, 18); due("count(" + a + ")", works.count(a), naive.count(a)); return 1; }
            case "refusals": { for (int a = 11; a < 18; a++) { due("count(" + a + ")", works.count(a), naive.count(a)); } return 7; }
            case "solvable": return makeSolvable(n);
            case "stepInHand": return makeStep(n);
            default: return call.equals("least") || call.equals("step") || call.equals("kind") || call.equals("back")
                || call.equals("fits") || call.equals("split") || call.equals("add")
                ? onceOfSteps(call, n, u) : onceOfPlans(call, n, u);
        }
    }

    private int onceOfSteps(String call, int n, int u) {
        int i = draw(0, Math.max(0, naive.least() - 1));
        switch (call) {
            case "least": due("least()", works.least(), naive.least()); return 1;
            case "step": due("step(" + i + ", " + u + ")", works.step(i, u), naive.step(i, u)); return 1;
            case "kind": due("kind(" + i + ")", works.kind(i), naive.kind(i)); return 1;
            case "back": due("back(" + i + ")", works.back(i), naive.back(i)); return 1;
            case "fits": due("fits(" + i + ")", works.fits(i), naive.fits(i)); return 1;
            case "split": due("split(" + i + ")", works.split(i), naive.split(i)); return 1;
            default: { int t = random.nextBoolean() ? draw(-3, 3) : draw(-10000, 10000);
                due("add(" + i + ", " + t + ")", works.add(i, t), naive.add(i, t)); return allOfHand(n); }
        }
    }

    private int onceOfPlans(String call, int n, int u) {
        int i = draw(0, Math.max(0, naive.plans() - 1));
        int what = random.nextInt(5) > 0 ? random.nextInt(2) : draw(0, 1);
        switch (call) {
            case "plans": due("plans()", works.plans(), naive.plans()); return 1;
            case "plan": due("plan(" + i + ", " + u + ")", works.plan(i, u), naive.plan(i, u)); return 1;
            case "take": due("take(" + i + ")", works.take(i), naive.take(i)); return allOfHand(n);
            case "less": due("less(" + i + ")", works.less(i), naive.less(i)); return allOfHand(n);
            case "find": due("find()", works.find(), naive.find()); return 1;
            case "span": due("span(" + u + ", " + what + ")", works.span(u, what), naive.span(u, what)); return 1;
            case "extreme": due("extreme(" + what + ")", works.extreme(what), naive.extreme(what)); return 1;
            default: due("near(" + i + ")", works.near(i), naive.near(i)); return 1;
        }
    }

    private int allOfHand(int n) {
        for (int u = 0; u < n; u++) {
            due("has(" + u + ")", works.has(u), naive.has(u));
        }
        return n + 1;
    }

    /** Right sides that some vector within the bounds gives. */
    private int makeSolvable(int n) {
        int[] sums = new int[3];
        for (int u = 0; u < n; u++) {
            int number = random.nextInt(8) - 1;
            for (int e = 0; e < naive.count(1); e++) {
                int c = naive.put(e, u, 0);
                naive.put(e, u, c);
                sums[e] += c * number;
            }
        }
        for (int e = 0; e < naive.count(1); e++) {
            due("right(" + e + ", " + sums[e] + ")", works.right(e, sums[e]), naive.right(e, sums[e]));
        }
        return 3;
    }

    /** A HAND that is a STEP, made of some least ones. */
    private int makeStep(int n) {
        for (int u = 0; u < n; u++) {
            due("hand(" + u + ", 0)", works.hand(u, 0), naive.hand(u, 0));
        }
        int steps = naive.least();
        for (int k = 0; k < 3 && steps > 0; k++) {
            int i = random.nextInt(steps);
            int t = 1 + random.nextInt(4);
            due("add(" + i + ", " + t + ")", works.add(i, t), naive.add(i, t));
        }
        due("count(6)", works.count(6), naive.count(6));
        for (int k = 0; k < 5 && steps > 0; k++) {
            int i = random.nextInt(steps);
            due("split(" + i + ")", works.split(i), naive.split(i));
        }
        return n + 9;
    }
}
