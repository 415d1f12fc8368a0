/**
 * Each promise of the document: ordinary inputs, the edges that it names, wrong inputs with each
 * refusal in its order. The answers were found by hand.
 */
public final class PromisesTest {
    private static final int NONE = -99999;
    private static int wrong;
    private static int promise;

    public static void main(String[] args) {
        aNewObject();
        worksCall();
        equationCall();
        putCall();
        rightCall();
        boundCall();
        priceCall();
        trayCall();
        cellCall();
        copyCall();
        layCall();
        leastAndStep();
        kindCall();
        backCall();
        handAndHas();
        whatCall();
        fitsCall();
        splitCall();
        addCall();
        costCall();
        betterCall();
        bestCall();
        plansAndPlan();
        takeCall();
        lessCall();
        findCall();
        spanCall();
        extremeCall();
        nearCall();
        countCall();
        hostileNumbers();
        System.out.println(wrong == 0 ? "PromisesTest: all answers are as due" : "PromisesTest: " + wrong + " wrong");
        System.exit(wrong == 0 ? 0 : 1);
    }

    private static void due(String call, long got, long want) {
        if (got != want) {
            wrong++;
            System.out.println("promise " + promise + ": " + call + " answered " + got + ", due is " + want);
        }
    }

    /** How many refusals of each number there were, -1 to -7. */
    private static void refusals(StepWorks x, int... want) {
        for (int k = 0; k < 7; k++) {
            due("count(" + (11 + k) + ")", x.count(11 + k), k < want.length ? want[k] : 0);
        }
    }

    private static void handIs(StepWorks x, int... want) {
        for (int u = 0; u < want.length; u++) {
            due("has(" + u + ")", x.has(u), want[u]);
        }
        due("has beyond", x.has(want.length), NONE);
    }

    private static void stepIs(StepWorks x, int i, int... want) {
        for (int u = 0; u < want.length; u++) {
            due("step(" + i + ", " + u + ")", x.step(i, u), want[u]);
        }
    }

    private static void planIs(StepWorks x, int i, int... want) {
        for (int u = 0; u < want.length; u++) {
            due("plan(" + i + ", " + u + ")", x.plan(i, u), want[u]);
        }
    }

    private static void putHand(StepWorks x, int... numbers) {
        for (int u = 0; u < numbers.length; u++) {
            x.hand(u, numbers[u]);
        }
    }

    private static StepWorks of(int n, int[]... rows) {
        StepWorks x = new StepWorks();
        x.works(n);
        for (int[] row : rows) {
            int e = x.equation();
            for (int u = 0; u < n; u++) {
                x.put(e, u, row[u]);
            }
        }
        return x;
    }

    private static void aNewObject() {
        promise = 1;
        StepWorks x = new StepWorks();
        due("count(0)", x.count(0), 1);
        due("count(1)", x.count(1), 0);
        due("count(5)", x.count(5), 0);
        handIs(x, 0);
        due("plans()", x.plans(), 11);
        due("cost()", x.cost(), 0);
        refusals(x);
        due("NONE", StepWorks.NONE, NONE);
    }

    private static void worksCall() {
        promise = 2;
        StepWorks x = of(3, new int[] {1, 1, 1});
        x.right(0, 5);
        x.bound(2, -3, 3);
        x.price(2, 4, 2);
        x.hand(2, 7);
        x.tray(1, 2, 5);
        x.cell(1, 0, 3);
        due("works(0)", x.works(0), -4);
        due("works(5)", x.works(5), -6);
        due("count(0)", x.count(0), 3);
        due("count(1)", x.count(1), 1);
        due("has(2)", x.has(2), 7);
        due("works(4)", x.works(4), 1);
        due("count(0)", x.count(0), 4);
        due("count(1)", x.count(1), 0);
        handIs(x, 0, 0, 0, 0);
        due("plans()", x.plans(), 11 * 11 * 11 * 11);
        x.hand(2, 1);
        due("cost()", x.cost(), 0);
        due("count(5)", x.count(5), 5);
        due("equation()", x.equation(), 0);
        due("put", x.put(0, 0, 2), 0);
        due("right", x.right(0, 0), 0);
        due("lay", x.lay(0, 1, 0), 1);
        due("put", x.put(0, 0, 0), 3);
        // what there was before a works() with fewer unknowns must not shine through
        x.works(4);
        x.take(14640);
        x.less(0);
        x.plan(14640, 3);
        x.works(2);
        x.take(0);
        due("less(120)", x.less(120), 1);
        handIs(x, -10, -10);
        x.works(4);
        handIs(x, 0, 0, 0, 0);
        due("works(-2147483648)", x.works(Integer.MIN_VALUE), -4);
        refusals(x, 0, 0, 0, 2, 0, 1);
    }

    private static void equationCall() {
        promise = 3;
        StepWorks x = new StepWorks();
        due("equation()", x.equation(), 0);
        due("equation()", x.equation(), 1);
        x.put(1, 0, 5);
        due("equation()", x.equation(), 2);
        due("equation()", x.equation(), -6);
        due("count(1)", x.count(1), 3);
        due("put(1, 0, 5)", x.put(1, 0, 5), 5);
        due("put(2, 0, 5)", x.put(2, 0, 5), 0);
        refusals(x, 0, 0, 0, 0, 0, 1);
        // an old equation's numbers must not stand in a new one
        x.right(2, 9);
        x.works(1);
        x.equation();
        x.equation();
        x.equation();
        due("put(2, 0, 0)", x.put(2, 0, 0), 0);
        due("right(2, 0)", x.right(2, 0), 0);
    }

    private static void putCall() {
        promise = 4;
        StepWorks x = new StepWorks();
        due("put(0, 0, 1)", x.put(0, 0, 1), -1);
        x.works(2);
        x.equation();
        due("put(0, 1, 6)", x.put(0, 1, 6), 0);
        due("put(0, 1, -6)", x.put(0, 1, -6), 6);
        due("put(0, 1, -7)", x.put(0, 1, -7), -4);
        due("put(0, 1, 7)", x.put(0, 1, 7), -6);
        due("put(0, 1, 0)", x.put(0, 1, 0), -6);
        due("put(1, 0, 9)", x.put(1, 0, 9), -1);
        due("put(-1, 0, 0)", x.put(-1, 0, 0), -1);
        due("put(0, 2, 9)", x.put(0, 2, 9), -1);
        due("put(0, -1, 0)", x.put(0, -1, 0), -1);
        due("least()", x.least(), 4);
        x.put(0, 0, 1);
        due("least()", x.least(), 2);
        refusals(x, 5, 0, 0, 1, 0, 1);
    }

    private static void rightCall() {
        promise = 5;
        StepWorks x = of(2, new int[] {1, 1});
        due("right(0, 200)", x.right(0, 200), 0);
        due("right(0, 201)", x.right(0, 201), -6);
        due("right(0, -201)", x.right(0, -201), -4);
        due("right(0, -200)", x.right(0, -200), 200);
        due("plans()", x.plans(), 0);
        due("right(0, 3)", x.right(0, 3), -200);
        due("plans()", x.plans(), 4);
        due("right(1, 999)", x.right(1, 999), -1);
        due("right(-1, 0)", x.right(-1, 0), -1);
        refusals(x, 2, 0, 0, 1, 0, 1);
    }

    private static void boundCall() {
        promise = 6;
        StepWorks x = new StepWorks();
        due("bound(0, -10, 10)", x.bound(0, -10, 10), 1);
        due("plans()", x.plans(), 21);
        due("bound(0, 5, 4)", x.bound(0, 5, 4), 1);
        due("plans()", x.plans(), 0);
        due("bound(0, -10, -10)", x.bound(0, -10, -10), 1);
        due("plan(0, 0)", x.plan(0, 0), -10);
        due("bound(0, 10, 10)", x.bound(0, 10, 10), 1);
        due("plan(0, 0)", x.plan(0, 0), 10);
        due("bound(0, 10, -10)", x.bound(0, 10, -10), 1);
        due("plans()", x.plans(), 0);
        due("bound(0, 7, 7)", x.bound(0, 7, 7), 1);
        due("plan(0, 0)", x.plan(0, 0), 7);
        due("bound(0, 11, -11)", x.bound(0, 11, -11), -4);
        due("bound(0, -11, 0)", x.bound(0, -11, 0), -4);
        due("bound(0, 0, -11)", x.bound(0, 0, -11), -4);
        due("bound(0, 11, 0)", x.bound(0, 11, 0), -6);
        due("bound(0, 0, 11)", x.bound(0, 0, 11), -6);
        due("bound(1, -11, 11)", x.bound(1, -11, 11), -1);
        due("bound(-1, 0, 0)", x.bound(-1, 0, 0), -1);
        due("plans()", x.plans(), 1);
        refusals(x, 2, 0, 0, 3, 0, 2);
    }

    private static void priceCall() {
        promise = 7;
        StepWorks x = new StepWorks();
        x.hand(0, 3);
        due("price(0, 99, 99)", x.price(0, 99, 99), 1);
        due("cost()", x.cost(), 99 * 3 + 99 * 9);
        due("price(0, -99, 0)", x.price(0, -99, 0), 1);
        due("cost()", x.cost(), -297);
        due("price(0, -100, 100)", x.price(0, -100, 100), -4);
        due("price(0, 100, -1)", x.price(0, 100, -1), -4);
        due("price(0, 100, 0)", x.price(0, 100, 0), -6);
        due("price(0, 0, 100)", x.price(0, 0, 100), -6);
        due("price(1, -100, 0)", x.price(1, -100, 0), -1);
        due("price(-1, 0, 0)", x.price(-1, 0, 0), -1);
        due("cost()", x.cost(), -297);
        refusals(x, 2, 0, 0, 2, 0, 2);
    }

    private static void trayCall() {
        promise = 8;
        StepWorks x = new StepWorks();
        due("tray(3, 3, 20)", x.tray(3, 3, 20), 1);
        due("tray(0, 0, 0)", x.tray(0, 0, 0), 1);
        due("count(5)", x.count(5), 20);
        due("tray(4, 9, -1)", x.tray(4, 9, -1), -1);
        due("tray(-1, 0, 0)", x.tray(-1, 0, 0), -1);
        due("tray(3, 4, -1)", x.tray(3, 4, -1), -2);
        due("tray(3, -1, 21)", x.tray(3, -1, 21), -2);
        due("tray(3, 0, -1)", x.tray(3, 0, -1), -4);
        due("tray(3, 0, 21)", x.tray(3, 0, 21), -6);
        due("count(5)", x.count(5), 20);
        x.equation();
        x.cell(3, 0, 5);
        due("tray(3, 1, 7)", x.tray(3, 1, 7), 1);
        due("count(5)", x.count(5), 7);
        x.put(0, 0, 4);
        due("lay(0, 3, 0)", x.lay(0, 3, 0), 1);
        due("put(0, 0, 0)", x.put(0, 0, 0), 0);
        refusals(x, 2, 2, 0, 1, 0, 1);
    }

    private static void cellCall() {
        promise = 9;
        StepWorks x = new StepWorks();
        x.equation();
        due("cell(4, 99, 0)", x.cell(4, 99, 0), -1);
        due("cell(-1, 0, 0)", x.cell(-1, 0, 0), -1);
        due("cell(0, 99, 0)", x.cell(0, 99, 0), -7);
        long[] cut = {(1L << 8) - 3, (1L << 16) - 3, (1L << 32) - 3, -3};
        for (int sort = 0; sort < 4; sort++) {
            x.tray(0, sort, 2);
            due("cell(0, 2, 0)", x.cell(0, 2, 0), -3);
            due("cell(0, -1, 0)", x.cell(0, -1, 0), -3);
            due("cell(0, 1, ..)", x.cell(0, 1, cut[sort]), 1);
            x.put(0, 0, 6);
            due("lay(0, 0, 1)", x.lay(0, 0, 1), 1);
            due("put(0, 0, 6)", x.put(0, 0, 6), -3);
            due("lay(0, 0, 0)", x.lay(0, 0, 0), 1);
            due("put(0, 0, 6)", x.put(0, 0, 6), 0);
            // the next greater sort's bits make it too great for this one
            due("cell(0, 0, ..)", x.cell(0, 0, 1L << (8 << sort) - 1), 1);
            due("lay(0, 0, 0)", x.lay(0, 0, 0), -4);
        }
        x.tray(0, 3, 1);
        x.cell(0, 0, Long.MAX_VALUE);
        due("lay(0, 0, 0)", x.lay(0, 0, 0), -6);
        x.cell(0, 0, (1L << 32) + 2);
        due("lay(0, 0, 0)", x.lay(0, 0, 0), -6);
        refusals(x, 2, 0, 8, 4, 0, 2, 1);
    }

    private static void copyCall() {
        promise = 10;
        StepWorks x = of(4, new int[4]);
        due("copy(4, 0, 0, -1)", x.copy(4, 0, 0, -1), -1);
        due("copy(0, 0, -1, -1)", x.copy(0, 0, -1, -1), -1);
        x.tray(0, 0, 4);
        due("copy(0, 0, 1, -1)", x.copy(0, 0, 1, -1), -7);
        due("copy(1, 0, 0, -1)", x.copy(1, 0, 0, -1), -7);
        x.tray(1, 1, 4);
        due("copy(0, 9, 1, -1)", x.copy(0, 9, 1, -1), -2);
        x.tray(1, 0, 3);
        due("copy(0, 9, 1, -1)", x.copy(0, 9, 1, -1), -4);
        due("copy(0, -1, 1, 1)", x.copy(0, -1, 1, 1), -3);
        due("copy(0, 2, 1, 3)", x.copy(0, 2, 1, 3), -3);
        due("copy(0, 0, 1, 4)", x.copy(0, 0, 1, 4), -3);
        due("copy(0, 2147483647, 1, 1)", x.copy(0, Integer.MAX_VALUE, 1, 1), -3);
        due("copy(0, 1, 1, 2147483647)", x.copy(0, 1, 1, Integer.MAX_VALUE), -3);
        refusals(x, 2, 1, 5, 1, 0, 0, 2);
        for (int i = 0; i < 4; i++) {
            x.cell(0, i, i + 1);
        }
        for (int i = 0; i < 3; i++) {
            x.cell(1, i, -i - 1);
        }
        due("copy(0, 4, 1, 0)", x.copy(0, 4, 1, 0), 1);
        due("copy(0, 2, 1, 2)", x.copy(0, 2, 1, 2), 1);
        rowIs(x, 0, 1, 2, -1, -2);
        rowIs(x, 1, -1, -2, -3, 0);
        // within one tray, as they were before
        due("copy(0, 1, 0, 3)", x.copy(0, 1, 0, 3), 1);
        rowIs(x, 0, 1, 1, 2, -1);
        due("copy(0, 0, 0, 4)", x.copy(0, 0, 0, 4), 1);
        rowIs(x, 0, 1, 1, 2, -1);
    }

    private static void rowIs(StepWorks x, int t, int... want) {
        due("lay(0, " + t + ", 0)", x.lay(0, t, 0), 1);
        for (int u = 0; u < want.length; u++) {
            due("put(0, " + u + ", 0)", x.put(0, u, 0), want[u]);
        }
    }

    private static void layCall() {
        promise = 11;
        StepWorks x = of(2, new int[] {3, 3});
        due("lay(0, 4, 0)", x.lay(0, 4, 0), -1);
        due("lay(0, -1, 0)", x.lay(0, -1, 0), -1);
        due("lay(1, 0, 0)", x.lay(1, 0, 0), -1);
        due("lay(-1, 0, 0)", x.lay(-1, 0, 0), -1);
        due("lay(0, 0, -1)", x.lay(0, 0, -1), -7);
        x.tray(0, 2, 3);
        x.cell(0, 0, 7);
        x.cell(0, 1, -7);
        x.cell(0, 2, 5);
        due("lay(0, 0, -1)", x.lay(0, 0, -1), -3);
        due("lay(0, 0, 4)", x.lay(0, 0, 4), -3);
        due("lay(0, 0, 0)", x.lay(0, 0, 0), -4);
        due("lay(0, 0, 1)", x.lay(0, 0, 1), -4);
        x.cell(0, 1, 6);
        due("lay(0, 0, 0)", x.lay(0, 0, 0), -6);
        due("put(0, 0, 3)", x.put(0, 0, 3), 3);
        due("put(0, 1, 3)", x.put(0, 1, 3), 3);
        due("lay(0, 0, 1)", x.lay(0, 0, 1), 1);
        due("put(0, 0, 6)", x.put(0, 0, 6), 6);
        due("put(0, 1, 5)", x.put(0, 1, 5), 5);
        due("step(1, 0)", x.step(1, 0), 5);
        due("lay(0, 0, 2)", x.lay(0, 0, 2), 1);
        due("put(0, 0, 5)", x.put(0, 0, 5), 5);
        due("put(0, 1, 0)", x.put(0, 1, 0), 0);
        due("lay(0, 0, 3)", x.lay(0, 0, 3), 1);
        due("put(0, 0, 0)", x.put(0, 0, 0), 0);
        // the edges, and elements behind the last unknown's, which do not matter
        x.cell(0, 0, -6);
        x.cell(0, 1, 6);
        x.cell(0, 2, -7);
        due("lay(0, 0, 0)", x.lay(0, 0, 0), 1);
        due("put(0, 0, 0)", x.put(0, 0, 0), -6);
        due("put(0, 1, 0)", x.put(0, 1, 0), 6);
        x.cell(0, 2, 7);
        due("lay(0, 0, 0)", x.lay(0, 0, 0), 1);
        refusals(x, 4, 0, 2, 2, 0, 1, 1);
    }

    private static void leastAndStep() {
        promise = 12;
        StepWorks x = new StepWorks();
        due("least()", x.least(), 2);
        x.equation();
        due("least()", x.least(), 2);
        x.put(0, 0, 4);
        due("least()", x.least(), 0);
        x = of(3, new int[] {1, 2, 3}, new int[] {2, 4, 6});
        due("least()", x.least(), 10);
        x = of(4, new int[] {5, 5, 6, 6});
        due("least()", x.least(), 88);
        x = of(4, new int[] {-5, 6, 0, 0}, new int[] {6, 6, -1, 1});
        due("least()", x.least(), 136);
        x = of(4, new int[] {6, 6, -6, 0}, new int[] {6, -6, 6, 0}, new int[] {-6, 6, 6, 1});
        due("least()", x.least(), 2);
        stepIs(x, 0, 0, -1, -1, 12);
        x = of(4, new int[] {6, 6, -6, 1}, new int[] {6, -6, 6, 1}, new int[] {-6, 6, 6, 1});
        stepIs(x, 1, 1, 1, 1, -6);
        x = of(4, new int[] {6, -5, 0, 0}, new int[] {0, 6, -5, 0}, new int[] {0, 0, 6, -5});
        due("least()", x.least(), 2);
        stepIs(x, 0, -125, -150, -180, -216);
        x = of(4, new int[] {6, -6, 5, 1}, new int[] {6, 5, -6, 0}, new int[] {-6, 6, 6, 0});
        due("least()", x.least(), 2);
        stepIs(x, 1, 1, 0, 1, -11);
        x = of(4, new int[] {5, 6, 0, 6}, new int[] {-6, -6, 5, 6}, new int[] {6, -6, 6, 5});
        due("least()", x.least(), 2);
        stepIs(x, 0, -102, 451, 858, -366);
        stepIs(x, 1, 102, -451, -858, 366);
        promise = 13;
        x = of(2, new int[] {2, -4});
        due("least()", x.least(), 2);
        stepIs(x, 0, -2, -1);
        stepIs(x, 1, 2, 1);
        due("step(-1, 0)", x.step(-1, 0), NONE);
        due("step(2, 0)", x.step(2, 0), NONE);
        due("step(0, 2)", x.step(0, 2), NONE);
        due("step(0, -1)", x.step(0, -1), NONE);
        x.put(0, 0, 0);
        stepIs(x, 0, -1, 0);
        due("least()", x.least(), 2);
        x.put(0, 1, 0);
        due("least()", x.least(), 4);
        stepIs(x, 0, -1, 0);
        stepIs(x, 1, 0, -1);
        stepIs(x, 2, 0, 1);
        stepIs(x, 3, 1, 0);
        refusals(x);
    }

    private static void kindCall() {
        promise = 14;
        // steps of x + y - 2 z: (1, 1, 1) is made of (2, 0, 1) and (0, 2, 1) in halves only
        StepWorks x = of(3, new int[] {1, 1, -2});
        due("least()", x.least(), 8);
        stepIs(x, 0, -2, 0, -1);
        due("kind(0)", x.kind(0), 3);
        stepIs(x, 1, -1, -1, -1);
        due("kind(1)", x.kind(1), 1);
        stepIs(x, 2, -1, 1, 0);
        due("kind(2)", x.kind(2), 3);
        stepIs(x, 6, 1, 1, 1);
        due("kind(6)", x.kind(6), 2);
        due("kind(7)", x.kind(7), 3);
        due("kind(8)", x.kind(8), 0);
        due("kind(-1)", x.kind(-1), 0);
        due("count(2)", x.count(2), 1);
        due("count(3)", x.count(3), 1);
        due("count(4)", x.count(4), 6);
        refusals(x);
        // below 0 in the first place alone
        x = of(3, new int[] {2, 1, 1});
        stepIs(x, 1, -1, 1, 1);
        due("kind(1)", x.kind(1), 1);
        due("count(3)", x.count(3), 0);
    }

    private static void backCall() {
        promise = 15;
        StepWorks x = of(3, new int[] {1, 1, -2});
        for (int i = 0; i < 8; i++) {
            int b = x.back(i);
            for (int u = 0; u < 3; u++) {
                due("step(back(" + i + "), " + u + ")", x.step(b, u), -x.step(i, u));
            }
        }
        due("back(0)", x.back(0), 7);
        due("back(8)", x.back(8), -1);
        due("back(-1)", x.back(-1), -1);
        refusals(x, 2);
    }

    private static void handAndHas() {
        promise = 16;
        StepWorks x = of(2);
        due("hand(1, 10000)", x.hand(1, 10000), 0);
        due("hand(1, -10000)", x.hand(1, -10000), 10000);
        due("hand(1, -10001)", x.hand(1, -10001), NONE);
        due("hand(1, 10001)", x.hand(1, 10001), NONE);
        due("hand(2, 10001)", x.hand(2, 10001), NONE);
        due("hand(-1, 0)", x.hand(-1, 0), NONE);
        refusals(x, 2, 0, 0, 1, 0, 1);
        promise = 17;
        handIs(x, 0, -10000);
        due("has(-1)", x.has(-1), NONE);
        due("has(3)", x.has(3), NONE);
        refusals(x, 2, 0, 0, 1, 0, 1);
    }

    private static void whatCall() {
        promise = 18;
        StepWorks x = of(2, new int[] {1, -2});
        due("what()", x.what(), 2);
        putHand(x, 2, 1);
        due("what()", x.what(), 3);
        putHand(x, 20, 10);
        due("what()", x.what(), 1);
        putHand(x, 20, 9);
        due("what()", x.what(), 0);
        x.right(0, 2);
        putHand(x, 20, 9);
        due("what()", x.what(), 0);
        putHand(x, 10, 4);
        due("what()", x.what(), 2);
        x.bound(1, 5, 9);
        due("what()", x.what(), 0);
        putHand(x, 0, 0);
        due("what()", x.what(), 0);
        x.bound(1, -1, 9);
        putHand(x, 0, -1);
        due("what()", x.what(), 2);
        x.bound(0, 5, 0);
        due("what()", x.what(), 0);
    }

    private static void fitsCall() {
        promise = 19;
        StepWorks x = of(3, new int[] {1, 1, -2});
        putHand(x, 1, 3, 1);
        int[] want = {0, 0, 0, 0, 1, 0, 1, 0};
        for (int i = 0; i < 8; i++) {
            due("fits(" + i + ")", x.fits(i), want[i]);
        }
        // the hand need be no step
        putHand(x, -5, 1, -1);
        due("fits(0)", x.fits(0), 1);
        due("fits(1)", x.fits(1), 0);
        due("fits(2)", x.fits(2), 1);
        due("fits(8)", x.fits(8), -1);
        due("fits(-1)", x.fits(-1), -1);
        refusals(x, 2);
    }

    private static void splitCall() {
        promise = 20;
        // steps: 0 (-2, 0, -1), 1 (-1, -1, -1), 2 (-1, 1, 0), 3 (0, -2, -1) and their backs
        StepWorks x = of(3, new int[] {1, 1, -2});
        putHand(x, -5, -3, -4);
        due("split(0)", x.split(0), 2);
        due("split(1)", x.split(1), 1);
        due("split(2)", x.split(2), 0);
        due("split(3)", x.split(3), 1);
        due("split(7)", x.split(7), 0);
        due("count(6)", x.count(6), 4);
        handIs(x, -5, -3, -4);
        putHand(x, 5, 3, 4);
        due("split(4)", x.split(4), 1);
        due("split(6)", x.split(6), 1);
        due("split(7)", x.split(7), 2);
        putHand(x, 10000, 10000, 10000);
        due("split(4)", x.split(4), 5000);
        due("split(7)", x.split(7), 5000);
        putHand(x, 5, 3, 5);
        due("split(8)", x.split(8), -1);
        due("split(-1)", x.split(-1), -1);
        due("split(0)", x.split(0), -5);
        putHand(x, 0, 0, 0);
        due("split(0)", x.split(0), -5);
        refusals(x, 2, 0, 0, 0, 2);
    }

    private static void addCall() {
        promise = 21;
        StepWorks x = of(2, new int[] {1, 2});
        putHand(x, 1, 1);
        due("add(1, 3)", x.add(1, 3), 1);
        handIs(x, 7, -2);
        due("add(1, -1)", x.add(1, -1), 1);
        handIs(x, 5, -1);
        due("add(1, 0)", x.add(1, 0), 1);
        putHand(x, 0, 0);
        due("add(1, 5000)", x.add(1, 5000), 1);
        handIs(x, 10000, -5000);
        due("add(1, 1)", x.add(1, 1), -6);
        // one would be above, another one below
        due("add(1, 20000)", x.add(1, 20000), -4);
        due("add(0, 10001)", x.add(0, 10001), -4);
        due("add(0, -2147483648)", x.add(0, Integer.MIN_VALUE), -4);
        due("add(1, 2147483647)", x.add(1, Integer.MAX_VALUE), -4);
        due("add(2, 2147483647)", x.add(2, Integer.MAX_VALUE), -1);
        due("add(-1, 0)", x.add(-1, 0), -1);
        handIs(x, 10000, -5000);
        refusals(x, 2, 0, 0, 4, 0, 1);
    }

    private static void costCall() {
        promise = 22;
        StepWorks x = of(4);
        for (int u = 0; u < 4; u++) {
            x.price(u, -99, 99);
            x.hand(u, -10000);
        }
        due("cost()", x.cost(), 4 * (99L * 10000 + 99L * 100000000));
        x.works(2);
        x.price(0, 5, 2);
        x.price(1, -7, 0);
        putHand(x, -3, 4);
        due("cost()", x.cost(), -15 + 18 - 28);
    }

    private static void betterCall() {
        promise = 23;
        StepWorks x = of(2, new int[] {1, 1});
        x.right(0, 10);
        x.price(0, 0, 1);
        x.price(1, 0, 1);
        putHand(x, 0, 9);
        due("better()", x.better(), -5);
        putHand(x, 0, 10);
        due("better()", x.better(), 1);
        handIs(x, 5, 5);
        due("better()", x.better(), NONE);
        handIs(x, 5, 5);
        // of t that are as good, the least: 5 and 6 from 0 for x (x - 11)
        x = new StepWorks();
        x.price(0, -11, 1);
        due("better()", x.better(), 1);
        handIs(x, 5);
        // of steps that are as good, the first: both unknowns up by one
        x = of(2);
        x.bound(0, 0, 1);
        x.bound(1, 0, 1);
        x.price(0, -1, 0);
        x.price(1, -1, 0);
        due("better()", x.better(), 2);
        handIs(x, 0, 1);
        due("better()", x.better(), 3);
        handIs(x, 1, 1);
        due("better()", x.better(), NONE);
        // the greatest lessening, not the first
        x = of(2);
        x.price(0, -3, 0);
        x.price(1, -1, 0);
        due("better()", x.better(), 3);
        handIs(x, 10, 0);
        // bounds that are wrong about: no plan
        x.bound(1, 1, 0);
        due("better()", x.better(), -5);
        refusals(x, 0, 0, 0, 0, 1);
    }

    private static void bestCall() {
        promise = 24;
        StepWorks x = of(4);
        for (int u = 0; u < 4; u++) {
            x.price(u, u - 3, 0);
        }
        due("best()", x.best(), 3);
        handIs(x, 10, 10, 10, 0);
        due("best()", x.best(), 0);
        due("find()", x.find(), x.extreme(0));
        x.hand(0, 11);
        due("best()", x.best(), -5);
        handIs(x, 11, 10, 10, 0);
        refusals(x, 0, 0, 0, 0, 1);
        x = of(3, new int[] {1, 2, 3});
        x.right(0, 24);
        x.price(0, 3, 2);
        x.price(1, -2, 1);
        x.price(2, 1, 3);
        x.take(0);
        x.best();
        long there = x.cost();
        x.take(x.extreme(0));
        due("cost behind best()", there, x.cost());
    }

    private static void plansAndPlan() {
        promise = 25;
        StepWorks x = of(4);
        for (int u = 0; u < 4; u++) {
            x.bound(u, -10, 10);
        }
        due("plans()", x.plans(), 194481);
        planIs(x, 194480, 10, 10, 10, 10);
        planIs(x, 21, -10, -10, -9, -10);
        x = of(3, new int[] {1, 1, 0}, new int[] {0, 0, 0});
        x.right(0, 1);
        due("plans()", x.plans(), 22);
        x.right(1, 1);
        due("plans()", x.plans(), 0);
        x.right(1, 0);
        x.bound(2, 3, 2);
        due("plans()", x.plans(), 0);
        x = of(1, new int[] {2});
        x.right(0, 5);
        due("plans()", x.plans(), 0);
        x.right(0, 6);
        due("plans()", x.plans(), 1);
        promise = 26;
        planIs(x, 0, 3);
        x = of(3, new int[] {-2, 1, -1});
        x.bound(2, -1, 1);
        x.bound(0, -1, 5);
        x.right(0, 3);
        due("plans()", x.plans(), 16);
        planIs(x, 0, -1, 0, -1);
        planIs(x, 1, -1, 1, 0);
        planIs(x, 2, -1, 2, 1);
        planIs(x, 14, 3, 10, 1);
        planIs(x, 15, 4, 10, -1);
        due("plan(16, 0)", x.plan(16, 0), NONE);
        due("plan(-1, 0)", x.plan(-1, 0), NONE);
        due("plan(0, 3)", x.plan(0, 3), NONE);
        due("plan(0, -1)", x.plan(0, -1), NONE);
        refusals(x);
    }

    private static void takeCall() {
        promise = 27;
        StepWorks x = of(3, new int[] {1, 1, 1});
        x.right(0, 2);
        putHand(x, 9, 9, 9);
        due("take(6)", x.take(6), -1);
        due("take(-1)", x.take(-1), -1);
        handIs(x, 9, 9, 9);
        due("take(4)", x.take(4), 1);
        handIs(x, 1, 1, 0);
        due("take(5)", x.take(5), 1);
        handIs(x, 2, 0, 0);
        refusals(x, 2);
    }

    private static void lessCall() {
        promise = 28;
        StepWorks x = of(2, new int[] {1, 1});
        x.bound(0, -10, 10);
        x.bound(1, -10, 10);
        putHand(x, -9990, 9990);
        due("less(20)", x.less(20), 1);
        handIs(x, -10000, 10000);
        due("less(0)", x.less(0), 1);
        handIs(x, -9990, 9990);
        putHand(x, 10000, -10000);
        due("less(0)", x.less(0), -4);
        putHand(x, 10000, 5);
        due("less(0)", x.less(0), -6);
        due("less(21)", x.less(21), -1);
        due("less(-1)", x.less(-1), -1);
        handIs(x, 10000, 5);
        refusals(x, 2, 0, 0, 1, 0, 1);
    }

    private static void findCall() {
        promise = 29;
        StepWorks x = of(3, new int[] {1, -2, 0});
        x.bound(2, -1, 2);
        for (int i = 0; i < x.plans(); i++) {
            x.take(i);
            due("find()", x.find(), i);
        }
        x = of(3, new int[] {1, -2, 1});
        for (int i = 0; i < x.plans(); i++) {
            x.take(i);
            due("find()", x.find(), i);
        }
        putHand(x, 11, 10, 9);
        due("find()", x.find(), -5);
        putHand(x, 0, 0, 1);
        due("find()", x.find(), -5);
        refusals(x, 0, 0, 0, 0, 2);
    }

    private static void spanCall() {
        promise = 30;
        StepWorks x = of(3, new int[] {3, 2, 0});
        x.right(0, 17);
        x.bound(2, -4, 6);
        int[][] want = {{1, 5}, {1, 7}, {-4, 6}};
        for (int u = 0; u < 3; u++) {
            due("span(" + u + ", 0)", x.span(u, 0), want[u][0]);
            due("span(" + u + ", 1)", x.span(u, 1), want[u][1]);
        }
        due("span(0, 2)", x.span(0, 2), NONE);
        due("span(0, -1)", x.span(0, -1), NONE);
        due("span(3, 0)", x.span(3, 0), NONE);
        due("span(-1, 1)", x.span(-1, 1), NONE);
        x.right(0, 1);
        due("span(0, 0)", x.span(0, 0), NONE);
        x.right(0, 17);
        x.put(0, 2, 1);
        due("span(2, 0)", x.span(2, 0), -4);
        due("span(2, 1)", x.span(2, 1), 6);
        refusals(x);
    }

    private static void extremeCall() {
        promise = 31;
        StepWorks x = of(3, new int[] {1, 1, 1});
        x.right(0, 2);
        due("extreme(0)", x.extreme(0), 0);
        due("extreme(1)", x.extreme(1), 0);
        x.price(1, 1, 1);
        // plans: 002 011 020 101 110 200
        due("extreme(0)", x.extreme(0), 0);
        due("extreme(1)", x.extreme(1), 2);
        x.price(0, -9, 5);
        due("extreme(0)", x.extreme(0), 3);
        due("extreme(1)", x.extreme(1), 2);
        due("extreme(2)", x.extreme(2), -2);
        due("extreme(-1)", x.extreme(-1), -2);
        x.right(0, -1);
        due("extreme(0)", x.extreme(0), -1);
        due("extreme(2)", x.extreme(2), -1);
        refusals(x);
        // the last unknown in no equation
        x = of(2, new int[] {1, 0});
        x.right(0, 4);
        x.price(1, -11, 1);
        due("extreme(0)", x.extreme(0), 5);
        due("extreme(1)", x.extreme(1), 0);
        x.bound(1, -2, 10);
        due("extreme(1)", x.extreme(1), 0);
        due("extreme(0)", x.extreme(0), 7);
    }

    private static void nearCall() {
        promise = 32;
        StepWorks x = of(3, new int[] {1, 1, 1});
        x.right(0, 2);
        int[] want = {2, 4, 2, 4, 4, 2};
        for (int i = 0; i < 6; i++) {
            due("near(" + i + ")", x.near(i), want[i]);
        }
        due("near(6)", x.near(6), -1);
        due("near(-1)", x.near(-1), -1);
        refusals(x, 2);
        // a step that cannot be made twice, and one that is too long
        x = of(2, new int[] {1, -4});
        due("near(1)", x.near(1), 2);
        due("near(2)", x.near(2), 1);
        x.put(0, 0, 0);
        x.right(0, 4);
        due("near(0)", x.near(0), -1);
        x.right(0, -4);
        due("near(0)", x.near(0), 1);
    }

    private static void countCall() {
        promise = 33;
        StepWorks x = of(3, new int[] {1, 1, -2});
        due("count(0)", x.count(0), 3);
        due("count(1)", x.count(1), 1);
        due("count(2)", x.count(2), 1);
        due("count(3)", x.count(3), 1);
        due("count(4)", x.count(4), 6);
        x.tray(0, 0, 20);
        x.tray(1, 3, 7);
        x.tray(2, 1, 0);
        due("count(5)", x.count(5), 27);
        due("count(6)", x.count(6), 0);
        putHand(x, -5, -3, -4);
        due("count(6)", x.count(6), 4);
        putHand(x, -5, -3, -3);
        due("count(6)", x.count(6), 0);
        for (int what = 7; what <= 10; what++) {
            due("count(" + what + ")", x.count(what), NONE);
        }
        due("count(-1)", x.count(-1), NONE);
        due("count(18)", x.count(18), NONE);
        due("count(2147483647)", x.count(Integer.MAX_VALUE), NONE);
        due("count(-2147483648)", x.count(Integer.MIN_VALUE), NONE);
        refusals(x);
        x.back(99);
        x.tray(0, 9, 0);
        x.cell(0, 20, 0);
        x.works(0);
        x.split(0);
        x.works(9);
        x.cell(3, 0, 0);
        refusals(x, 1, 1, 1, 1, 1, 1, 1);
        x.cell(3, 0, 0);
        refusals(x, 1, 1, 1, 1, 1, 1, 2);
    }

    /** No numbers make a call throw. */
    private static void hostileNumbers() {
        promise = 0;
        int[] hard = {Integer.MIN_VALUE, Integer.MIN_VALUE + 1, -99999, -1, 0, 1, 3, 20, 99999, Integer.MAX_VALUE};
        for (int a : hard) {
            for (int b : hard) {
                for (int c : hard) {
                    StepWorks x = of(3, new int[] {1, 2, 3}, new int[] {6, 5, -6});
                    x.tray(0, 0, 5);
                    x.tray(1, 0, 5);
                    try {
                        callAll(x, a, b, c);
                    } catch (RuntimeException e) {
                        wrong++;
                        System.out.println("numbers " + a + " " + b + " " + c + ": " + e);
                    }
                }
            }
        }
    }

    private static void callAll(StepWorks x, int a, int b, int c) {
        x.put(a, b, c);
        x.right(a, b);
        x.bound(a, b, c);
        x.price(a, b, c);
        x.tray(a, b, c);
        x.cell(a, b, c);
        x.cell(0, a, b);
        x.copy(a, b, c, a);
        x.copy(0, a, 1, b);
        x.lay(a, b, c);
        x.lay(0, 0, a);
        x.step(a, b);
        x.kind(a);
        x.back(a);
        x.hand(a, b);
        x.has(a);
        x.what();
        x.fits(a);
        x.split(a);
        x.add(a, b);
        x.add(0, b);
        x.cost();
        x.better();
        x.best();
        x.plan(a, b);
        x.take(a);
        x.less(a);
        x.find();
        x.span(a, b);
        x.extreme(a);
        x.near(a);
        x.count(a);
        x.works(a);
        x.plans();
        x.least();
    }
}
