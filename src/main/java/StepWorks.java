import java.util.Arrays;

/**
 * The few whole steps by which every plan under some equations can be bettered, and all plans.
 *
 * <p>The steps depend on the coefficients alone, the plans on right sides and bounds too: each of
 * both tables is made when it is first asked for, and again only behind a change that touches it.
 */
public final class StepWorks {
    public static final int NONE = -99999;

    private static final int NOBODY = -1;
    private static final int OTHER = -2;
    private static final int BEYOND = -3;
    private static final int BELOW = -4;
    private static final int STATE = -5;
    private static final int ABOVE = -6;
    private static final int MISSING = -7;

    private static final int MOST_UNKNOWNS = 4;
    private static final int MOST_EQUATIONS = 3;
    private static final int GREATEST_COEFFICIENT = 6;
    private static final int GREATEST_RIGHT_SIDE = 200;
    private static final int GREATEST_BOUND = 10;
    private static final int GREATEST_PRICE = 99;
    private static final int GREATEST_HAND = 10000;
    private static final int KINDS = 3;

    // Each bettering lessens the cost, so no plan comes twice, and there are at most 21^4 plans.
    private static final int MOST_BETTERINGS = 200000;

    private final Model model;
    private final LeastSteps leastSteps;
    private final Plans allPlans;
    private final Trays trays;
    private final int[] inHand;
    private final int[] scratch;
    private final long[] moved;
    private final int[] refused;

    public StepWorks() {
        model = new Model();
        leastSteps = new LeastSteps(model);
        allPlans = new Plans(model);
        trays = new Trays();
        inHand = new int[MOST_UNKNOWNS];
        scratch = new int[MOST_UNKNOWNS];
        moved = new long[MOST_UNKNOWNS];
        refused = new int[-MISSING + 1];
    }

    public int works(int n) {
        if (n < 1) {
            return refuse(BELOW);
        }
        if (n > MOST_UNKNOWNS) {
            return refuse(ABOVE);
        }
        model.begin(n);
        Arrays.fill(inHand, 0);
        equationsChanged();
        return 1;
    }

    public int equation() {
        if (model.equations >= MOST_EQUATIONS) {
            return refuse(ABOVE);
        }
        equationsChanged();
        return model.addEquation();
    }

    public int put(int e, int u, int v) {
        if (!model.hasEquation(e) || !model.hasUnknown(u)) {
            return refuse(NOBODY);
        }
        if (v < -GREATEST_COEFFICIENT) {
            return refuse(BELOW);
        }
        if (v > GREATEST_COEFFICIENT) {
            return refuse(ABOVE);
        }
        int was = model.coefficients[e][u];
        setCoefficient(e, u, v);
        return was;
    }

    public int right(int e, int v) {
        if (!model.hasEquation(e)) {
            return refuse(NOBODY);
        }
        if (v < -GREATEST_RIGHT_SIDE) {
            return refuse(BELOW);
        }
        if (v > GREATEST_RIGHT_SIDE) {
            return refuse(ABOVE);
        }
        int was = model.rightSides[e];
        model.rightSides[e] = v;
        allPlans.stale = allPlans.stale || was != v;
        return was;
    }

    public int bound(int u, int low, int high) {
        if (!model.hasUnknown(u)) {
            return refuse(NOBODY);
        }
        if (low < -GREATEST_BOUND || high < -GREATEST_BOUND) {
            return refuse(BELOW);
        }
        if (low > GREATEST_BOUND || high > GREATEST_BOUND) {
            return refuse(ABOVE);
        }
        model.lows[u] = low;
        model.highs[u] = high;
        allPlans.stale = true;
        return 1;
    }

    public int price(int u, int price, int bend) {
        if (!model.hasUnknown(u)) {
            return refuse(NOBODY);
        }
        if (price < -GREATEST_PRICE || bend < 0) {
            return refuse(BELOW);
        }
        if (price > GREATEST_PRICE || bend > GREATEST_PRICE) {
            return refuse(ABOVE);
        }
        model.prices[u] = price;
        model.bends[u] = bend;
        return 1;
    }

    public int tray(int t, int sort, int n) {
        if (!trays.isTray(t)) {
            return refuse(NOBODY);
        }
        if (sort < Trays.BYTES || sort > Trays.LONGS) {
            return refuse(OTHER);
        }
        if (n < 0) {
            return refuse(BELOW);
        }
        if (n > Trays.MOST_ELEMENTS) {
            return refuse(ABOVE);
        }
        trays.layOut(t, sort, n);
        return 1;
    }

    public int cell(int t, int i, long v) {
        if (!trays.isTray(t)) {
            return refuse(NOBODY);
        }
        if (trays.isMissing(t)) {
            return refuse(MISSING);
        }
        if (i < 0 || i >= trays.lengths[t]) {
            return refuse(BEYOND);
        }
        trays.set(t, i, v);
        return 1;
    }

    public int copy(int t, int i, int d, int n) {
        if (!trays.isTray(t) || !trays.isTray(d)) {
            return refuse(NOBODY);
        }
        if (trays.isMissing(t) || trays.isMissing(d)) {
            return refuse(MISSING);
        }
        if (trays.sorts[t] != trays.sorts[d]) {
            return refuse(OTHER);
        }
        if (n < 0) {
            return refuse(BELOW);
        }
        if (n > trays.lengths[d] || i < 0 || i > trays.lengths[t] - n) {
            return refuse(BEYOND);
        }
        System.arraycopy(trays.elements[d], 0, trays.elements[t], i, n);
        return 1;
    }

    public int lay(int e, int t, int place) {
        if (!trays.isTray(t) || !model.hasEquation(e)) {
            return refuse(NOBODY);
        }
        if (trays.isMissing(t)) {
            return refuse(MISSING);
        }
        if (place < 0 || place > trays.lengths[t]) {
            return refuse(BEYOND);
        }
        for (int u = 0; u < model.unknowns; u++) {
            if (trays.get(t, place + u) < -GREATEST_COEFFICIENT) {
                return refuse(BELOW);
            }
        }
        for (int u = 0; u < model.unknowns; u++) {
            if (trays.get(t, place + u) > GREATEST_COEFFICIENT) {
                return refuse(ABOVE);
            }
        }
        for (int u = 0; u < model.unknowns; u++) {
            setCoefficient(e, u, (int) trays.get(t, place + u));
        }
        return 1;
    }

    public int least() {
        return freshSteps().size();
    }

    public int step(int i, int u) {
        if (!freshSteps().isStep(i) || !model.hasUnknown(u)) {
            return NONE;
        }
        return leastSteps.at(i, u);
    }

    public int kind(int i) {
        return freshSteps().isStep(i) ? leastSteps.kindOf(i) : 0;
    }

    public int back(int i) {
        if (!freshSteps().isStep(i)) {
            return refuse(NOBODY);
        }
        // Turning all steps about turns their order about.
        return leastSteps.size() - 1 - i;
    }

    public int hand(int u, int v) {
        if (!model.hasUnknown(u)) {
            refuse(NOBODY);
            return NONE;
        }
        if (v < -GREATEST_HAND) {
            refuse(BELOW);
            return NONE;
        }
        if (v > GREATEST_HAND) {
            refuse(ABOVE);
            return NONE;
        }
        int was = inHand[u];
        inHand[u] = v;
        return was;
    }

    public int has(int u) {
        return model.hasUnknown(u) ? inHand[u] : NONE;
    }

    public int what() {
        return (model.isStep(inHand) ? 1 : 0) + (model.isPlan(inHand) ? 2 : 0);
    }

    public int fits(int i) {
        if (!freshSteps().isStep(i)) {
            return refuse(NOBODY);
        }
        return leastSteps.timesWithin(i, inHand) > 0 ? 1 : 0;
    }

    public int split(int i) {
        if (!freshSteps().isStep(i)) {
            return refuse(NOBODY);
        }
        if (!model.isStep(inHand)) {
            return refuse(STATE);
        }
        return amountsOfSplit(leastSteps, i, i + 1);
    }

    public int add(int i, int t) {
        if (!freshSteps().isStep(i)) {
            return refuse(NOBODY);
        }
        for (int u = 0; u < MOST_UNKNOWNS; u++) {
            moved[u] = inHand[u] + (long) t * leastSteps.at(i, u);
        }
        return moveHand();
    }

    public long cost() {
        return model.costOf(inHand);
    }

    public int better() {
        if (!model.isPlan(inHand)) {
            return refuse(STATE);
        }
        return betterHand(freshSteps());
    }

    public int best() {
        if (!model.isPlan(inHand)) {
            return refuse(STATE);
        }
        LeastSteps steps = freshSteps();
        int times = 0;
        while (times < MOST_BETTERINGS && betterHand(steps) != NONE) {
            times++;
        }
        return times;
    }

    public int plans() {
        return freshPlans().size();
    }

    public int plan(int i, int u) {
        if (!freshPlans().isNumber(i) || !model.hasUnknown(u)) {
            return NONE;
        }
        allPlans.read(i, scratch);
        return scratch[u];
    }

    public int take(int i) {
        if (!freshPlans().isNumber(i)) {
            return refuse(NOBODY);
        }
        allPlans.read(i, inHand);
        return 1;
    }

    public int less(int i) {
        if (!freshPlans().isNumber(i)) {
            return refuse(NOBODY);
        }
        allPlans.read(i, scratch);
        for (int u = 0; u < MOST_UNKNOWNS; u++) {
            moved[u] = inHand[u] - scratch[u];
        }
        return moveHand();
    }

    public int find() {
        if (!model.isPlan(inHand)) {
            return refuse(STATE);
        }
        return freshPlans().numberOf(inHand);
    }

    public int span(int u, int what) {
        if (freshPlans().size() == 0 || !model.hasUnknown(u) || what < 0 || what > 1) {
            return NONE;
        }
        return what == 0 ? allPlans.leastOf(u) : allPlans.greatestOf(u);
    }

    public int extreme(int what) {
        if (freshPlans().size() == 0) {
            return NOBODY;
        }
        if (what < 0 || what > 1) {
            return OTHER;
        }
        return allPlans.firstOfCost(what == 0 ? 1 : -1);
    }

    public int near(int i) {
        if (!freshPlans().isNumber(i)) {
            return refuse(NOBODY);
        }
        allPlans.read(i, scratch);
        LeastSteps steps = freshSteps();
        int found = 0;
        for (int s = 0; s < steps.size(); s++) {
            if (steps.timesInBounds(s, scratch) > 0) {
                found++;
            }
        }
        return found;
    }

    public int count(int what) {
        if (what >= 2 && what < 2 + KINDS) {
            return freshSteps().howManyOf(what - 1);
        }
        if (what > 10 && what <= 10 - MISSING) {
            return refused[what - 10];
        }
        switch (what) {
            case 0:
                return model.unknowns;
            case 1:
                return model.equations;
            case 5:
                return trays.allElements();
            case 6:
                return model.isStep(inHand) ? amountsOfSplit(freshSteps(), 0, leastSteps.size()) : 0;
            default:
                return NONE;
        }
    }

    private int refuse(int why) {
        if (why <= NOBODY && why >= MISSING) {
            refused[-why]++;
        }
        return why;
    }

    private void equationsChanged() {
        leastSteps.stale = true;
        allPlans.stale = true;
    }

    private void setCoefficient(int e, int u, int v) {
        if (model.coefficients[e][u] != v) {
            model.coefficients[e][u] = v;
            equationsChanged();
        }
    }

    private LeastSteps freshSteps() {
        leastSteps.refresh();
        return leastSteps;
    }

    private Plans freshPlans() {
        allPlans.refresh();
        return allPlans;
    }

    /** The HAND becomes what stands in moved, unless a number of it lies too far out. */
    private int moveHand() {
        for (int u = 0; u < MOST_UNKNOWNS; u++) {
            if (moved[u] < -GREATEST_HAND) {
                return refuse(BELOW);
            }
        }
        for (int u = 0; u < MOST_UNKNOWNS; u++) {
            if (moved[u] > GREATEST_HAND) {
                return refuse(ABOVE);
            }
        }
        for (int u = 0; u < MOST_UNKNOWNS; u++) {
            inHand[u] = (int) moved[u];
        }
        return 1;
    }

    /** The sum of the AMOUNTS of the steps first .. end - 1; the HAND is a STEP. */
    private int amountsOfSplit(LeastSteps steps, int first, int end) {
        System.arraycopy(inHand, 0, scratch, 0, MOST_UNKNOWNS);
        int sum = 0;
        for (int i = 0; i < end && i < steps.size(); i++) {
            int times = steps.timesWithin(i, scratch);
            if (times > 0) {
                steps.addTimes(i, -times, scratch);
            }
            if (i >= first) {
                sum += times;
            }
        }
        return sum;
    }

    /** One BETTERING of the HAND, which is a PLAN: the number of the step, or NONE. */
    private int betterHand(LeastSteps steps) {
        int bestStep = NONE;
        int bestTimes = 0;
        long bestChange = 0;
        for (int i = 0; i < steps.size(); i++) {
            int most = steps.timesInBounds(i, inHand);
            if (most > 0) {
                long slope = steps.slopeAt(i, inHand);
                long curve = steps.curveOf(i);
                for (int t = 1; t <= most; t++) {
                    long change = (slope + curve * t) * t;
                    if (change < bestChange) {
                        bestStep = i;
                        bestTimes = t;
                        bestChange = change;
                    }
                }
            }
        }
        if (bestStep != NONE) {
            steps.addTimes(bestStep, bestTimes, inHand);
        }
        return bestStep;
    }

    /** The UNKNOWNS with BOUNDS, PRICES and BENDS, and the EQUATIONS. */
    private static final class Model {
        int unknowns;
        int equations;
        final int[][] coefficients = new int[MOST_EQUATIONS][MOST_UNKNOWNS];
        final int[] rightSides = new int[MOST_EQUATIONS];
        final int[] lows = new int[MOST_UNKNOWNS];
        final int[] highs = new int[MOST_UNKNOWNS];
        final int[] prices = new int[MOST_UNKNOWNS];
        final int[] bends = new int[MOST_UNKNOWNS];

        Model() {
            begin(1);
        }

        void begin(int n) {
            unknowns = n;
            equations = 0;
            Arrays.fill(lows, 0);
            Arrays.fill(highs, GREATEST_BOUND);
            Arrays.fill(prices, 0);
            Arrays.fill(bends, 0);
        }

        /** There are fewer than three. */
        int addEquation() {
            int e = equations;
            Arrays.fill(coefficients[e], 0);
            rightSides[e] = 0;
            equations++;
            return e;
        }

        boolean hasUnknown(int u) {
            return u >= 0 && u < unknowns;
        }

        boolean hasEquation(int e) {
            return e >= 0 && e < equations;
        }

        boolean isStep(int[] vector) {
            boolean moves = false;
            for (int u = 0; u < unknowns; u++) {
                moves = moves || vector[u] != 0;
            }
            for (int e = 0; e < equations; e++) {
                if (sumOf(e, vector) != 0) {
                    return false;
                }
            }
            return moves;
        }

        boolean isPlan(int[] vector) {
            for (int u = 0; u < unknowns; u++) {
                if (vector[u] < lows[u] || vector[u] > highs[u]) {
                    return false;
                }
            }
            for (int e = 0; e < equations; e++) {
                if (sumOf(e, vector) != rightSides[e]) {
                    return false;
                }
            }
            return true;
        }

        long costOf(int[] vector) {
            long sum = 0;
            for (int u = 0; u < unknowns; u++) {
                sum += costOfNumber(u, vector[u]);
            }
            return sum;
        }

        long costOfNumber(int u, int number) {
            return ((long) bends[u] * number + prices[u]) * number;
        }

        boolean isFree(int u) {
            for (int e = 0; e < equations; e++) {
                if (coefficients[e][u] != 0) {
                    return false;
                }
            }
            return true;
        }

        private int sumOf(int e, int[] vector) {
            int sum = 0;
            for (int u = 0; u < unknowns; u++) {
                sum += coefficients[e][u] * vector[u];
            }
            return sum;
        }
    }

    /** Rows of whole numbers; every SORT is held in longs, cut down to the sort's bits. */
    private static final class Trays {
        static final int BYTES = 0;
        static final int SHORTS = 1;
        static final int INTS = 2;
        static final int LONGS = 3;
        static final int MOST_ELEMENTS = 20;
        private static final int TRAYS = 4;
        private static final int NO_ROW = -1;

        final long[][] elements = new long[TRAYS][MOST_ELEMENTS];
        final int[] sorts = new int[TRAYS];
        final int[] lengths = new int[TRAYS];

        Trays() {
            Arrays.fill(lengths, NO_ROW);
        }

        boolean isTray(int t) {
            return t >= 0 && t < TRAYS;
        }

        boolean isMissing(int t) {
            return lengths[t] == NO_ROW;
        }

        void layOut(int t, int sort, int n) {
            sorts[t] = sort;
            lengths[t] = n;
            Arrays.fill(elements[t], 0L);
        }

        void set(int t, int i, long v) {
            switch (sorts[t]) {
                case BYTES:
                    elements[t][i] = (byte) v;
                    break;
                case SHORTS:
                    elements[t][i] = (short) v;
                    break;
                case INTS:
                    elements[t][i] = (int) v;
                    break;
                default:
                    elements[t][i] = v;
                    break;
            }
        }

        /** An element, 0 behind the row's end. */
        long get(int t, int i) {
            return i >= 0 && i < lengths[t] ? elements[t][i] : 0L;
        }

        int allElements() {
            int sum = 0;
            for (int t = 0; t < TRAYS; t++) {
                sum += Math.max(lengths[t], 0);
            }
            return sum;
        }
    }

    /**
     * A list of VECTORS that can be sorted. Each is one long, its numbers from the highest bits on,
     * so that the order of the longs is the order of the first numbers that differ.
     */
    private static final class VectorList {
        // No equations have more than 136 least steps: all pairs of rows were tried.
        private static final int MOST_VECTORS = 256;
        // No number of a least step is farther from 0 than the greatest 3 x 3 determinant, 864.
        private static final int BITS = 11;
        private static final int ZERO = 1 << (BITS - 1);
        private static final int MASK = (1 << BITS) - 1;
        private static final int[] GAPS = {57, 23, 10, 4, 1};

        private final long[] keys = new long[MOST_VECTORS];
        private int size;

        int size() {
            return size;
        }

        void clear() {
            size = 0;
        }

        /** The vector that stands in cells from a place on, times a sign. */
        void append(int[] cells, int place, int sign) {
            if (size >= MOST_VECTORS || place < 0 || place > cells.length - MOST_UNKNOWNS) {
                return;
            }
            long key = 0;
            for (int u = 0; u < MOST_UNKNOWNS; u++) {
                key = (key << BITS) | ((sign * cells[place + u] + ZERO) & MASK);
            }
            keys[size] = key;
            size++;
        }

        int at(int i, int u) {
            return (int) (keys[i] >> (BITS * (MOST_UNKNOWNS - 1 - u)) & MASK) - ZERO;
        }

        void sort() {
            for (int g = 0; g < GAPS.length; g++) {
                int gap = GAPS[g];
                for (int i = gap; i < size; i++) {
                    long key = keys[i];
                    int j = i;
                    while (j >= gap && keys[j - gap] > key) {
                        keys[j] = keys[j - gap];
                        j -= gap;
                    }
                    keys[j] = key;
                }
            }
        }
    }

    /** The LEAST STEPS in their order. */
    private static final class LeastSteps {
        private static final int ROUND = 3;
        private static final int PURE = 2;
        private static final int MIXED = 1;
        private static final int SUPPORTS = 1 << MOST_UNKNOWNS;

        private final Model model;
        private final VectorList list = new VectorList();
        private final Kernel kernel = new Kernel();
        private final Ring ring = new Ring();
        private final Box box;
        private int roundSupports;
        boolean stale = true;

        LeastSteps(Model model) {
            this.model = model;
            box = new Box(model, list);
        }

        void refresh() {
            if (!stale) {
                return;
            }
            stale = false;
            list.clear();
            kernel.solve(model);
            // With four unknowns, three dimensions or more leave one equation at most.
            if (kernel.size > 2) {
                box.search();
            } else if (kernel.size > 0) {
                boolean plane = kernel.size == 2;
                if (plane) {
                    kernel.straighten();
                }
                ring.walk(kernel.vectors[0], kernel.vectors[1], plane);
                ring.giveTo(list);
                list.sort();
            }
            findRoundSupports();
        }

        int size() {
            return list.size();
        }

        boolean isStep(int i) {
            return i >= 0 && i < list.size();
        }

        int at(int i, int u) {
            return list.at(i, u);
        }

        int kindOf(int i) {
            if ((roundSupports >> supportOf(i) & 1) == 1) {
                return ROUND;
            }
            for (int u = 0; u < MOST_UNKNOWNS; u++) {
                if (at(i, u) < 0) {
                    return MIXED;
                }
            }
            return PURE;
        }

        int howManyOf(int kind) {
            int found = 0;
            for (int i = 0; i < list.size(); i++) {
                if (kindOf(i) == kind) {
                    found++;
                }
            }
            return found;
        }

        /** How often at most a step, times so many, FITS within a vector. */
        int timesWithin(int i, int[] vector) {
            int times = GREATEST_HAND;
            for (int u = 0; u < MOST_UNKNOWNS && times > 0; u++) {
                int number = at(i, u);
                if (number != 0) {
                    times = Math.max(0, Math.min(times, vector[u] / number));
                }
            }
            return times;
        }

        /** How often at most a step can be added to a vector within the BOUNDS. */
        int timesInBounds(int i, int[] vector) {
            int times = 2 * GREATEST_BOUND;
            for (int u = 0; u < model.unknowns && times > 0; u++) {
                int number = at(i, u);
                if (number > 0) {
                    times = Math.min(times, (model.highs[u] - vector[u]) / number);
                } else if (number < 0) {
                    times = Math.min(times, (model.lows[u] - vector[u]) / number);
                }
            }
            return times;
        }

        void addTimes(int i, int times, int[] vector) {
            for (int u = 0; u < MOST_UNKNOWNS; u++) {
                vector[u] += times * at(i, u);
            }
        }

        /** A step, t times, changes the COST of a vector by (slope + curve * t) * t. */
        long slopeAt(int i, int[] vector) {
            long sum = 0;
            for (int u = 0; u < model.unknowns; u++) {
                sum += (long) at(i, u) * (model.prices[u] + 2L * model.bends[u] * vector[u]);
            }
            return sum;
        }

        long curveOf(int i) {
            long sum = 0;
            for (int u = 0; u < model.unknowns; u++) {
                long number = at(i, u);
                sum += model.bends[u] * number * number;
            }
            return sum;
        }

        private int supportOf(int i) {
            int support = 0;
            for (int u = 0; u < MOST_UNKNOWNS; u++) {
                if (at(i, u) != 0) {
                    support |= 1 << u;
                }
            }
            return support;
        }

        /**
         * Within every STEP some least one FITS, and is 0 wherever the other one is: so the least
         * steps alone tell which steps are ROUND.
         */
        private void findRoundSupports() {
            int present = 0;
            for (int i = 0; i < list.size(); i++) {
                present |= 1 << supportOf(i);
            }
            roundSupports = 0;
            for (int support = 1; support < SUPPORTS; support++) {
                if ((present >> support & 1) == 1 && !hasSmaller(present, support)) {
                    roundSupports |= 1 << support;
                }
            }
        }

        private boolean hasSmaller(int present, int support) {
            for (int other = 1; other < support; other++) {
                if ((present >> other & 1) == 1 && (other & support) == other) {
                    return true;
                }
            }
            return false;
        }
    }

    /** A basis of all VECTORS for which each EQUATION's sum is 0. */
    private static final class Kernel {
        // Each pass makes the least sum less, and no sum comes near 2^60.
        private static final int MOST_PASSES = 100;

        final long[][] vectors = new long[MOST_UNKNOWNS][MOST_UNKNOWNS];
        private final long[] sums = new long[MOST_UNKNOWNS];
        private final int[] unit = new int[MOST_UNKNOWNS];
        int size;

        void solve(Model model) {
            size = model.unknowns;
            for (int j = 0; j < MOST_UNKNOWNS; j++) {
                Arrays.fill(vectors[j], 0L);
                vectors[j][j] = 1;
            }
            for (int e = 0; e < model.equations; e++) {
                impose(model.coefficients[e]);
            }
        }

        /**
         * Of a basis of two, the first becomes a vector that is 0 for some unknown for which the
         * second is not: so no step but itself FITS within the first. The second becomes short: for
         * some unknown it is nearer to 0 than the first, on the same side or at 0. So neither less
         * the first nor more by it can it be split into that and the first without opposite signs.
         */
        void straighten() {
            for (int u = 0; u < MOST_UNKNOWNS && size == 2; u++) {
                Arrays.fill(unit, 0);
                unit[u] = 1;
                impose(unit);
            }
            for (int v = 0; v < MOST_UNKNOWNS; v++) {
                if (vectors[0][v] != 0) {
                    subtract(1, 0, Math.floorDiv(vectors[1][v], vectors[0][v]));
                    return;
                }
            }
        }

        /**
         * Euclid's way over the sums of the basis: one vector keeps the greatest common divisor and
         * leaves the basis (it stands behind its end then), the others have the sum 0.
         */
        private void impose(int[] coefficients) {
            for (int j = 0; j < size; j++) {
                sums[j] = 0;
                for (int u = 0; u < MOST_UNKNOWNS; u++) {
                    sums[j] += coefficients[u] * vectors[j][u];
                }
            }
            for (int pass = 0; pass < MOST_PASSES; pass++) {
                int least = leastSum();
                if (least < 0) {
                    return;
                }
                if (!reduceBy(least)) {
                    removeVector(least);
                    return;
                }
            }
        }

        /** The vector whose sum is nearest to 0 but not 0; -1 if all are 0. */
        private int leastSum() {
            int least = -1;
            for (int j = 0; j < size; j++) {
                if (sums[j] != 0 && (least < 0 || Math.abs(sums[j]) < Math.abs(sums[least]))) {
                    least = j;
                }
            }
            return least;
        }

        /** Whether another sum is left that is not 0. */
        private boolean reduceBy(int least) {
            boolean left = false;
            for (int j = 0; j < size; j++) {
                if (j != least && sums[least] != 0) {
                    long times = sums[j] / sums[least];
                    subtract(j, least, times);
                    sums[j] -= times * sums[least];
                    left = left || sums[j] != 0;
                }
            }
            return left;
        }

        private void subtract(int from, int what, long times) {
            for (int u = 0; u < MOST_UNKNOWNS; u++) {
                vectors[from][u] -= times * vectors[what][u];
            }
        }

        private void removeVector(int j) {
            size--;
            long[] removed = vectors[j];
            vectors[j] = vectors[size];
            vectors[size] = removed;
        }
    }

    /**
     * The LEAST STEPS where all STEPS lie in a line or a plane. In the plane they are walked through
     * half a turn: between two neighbours that make up a basis and have opposite signs somewhere,
     * their sum is put, until no neighbours have. Then all vectors between two neighbours are made
     * up of both, and these FIT within them: so no others are least. And all of these are: a sum was
     * put only where signs are opposite, the first is least, and the second is so short that it is
     * no sum of its neighbours either (see Kernel.straighten).
     */
    private static final class Ring {
        // All pairs of rows were tried: no walk keeps more than 69, or has more than 68 ahead.
        private static final int MOST_KEPT = 128;
        private static final int MOST_AHEAD = 128;
        private static final int MOST_TURNS = 10000;

        private final int[] kept = new int[MOST_KEPT * MOST_UNKNOWNS];
        private final int[] ahead = new int[MOST_AHEAD * MOST_UNKNOWNS];
        private int keptSize;
        private int aheadSize;

        /** From the first through the second, if they span a plane, to the first turned about. */
        void walk(long[] first, long[] second, boolean plane) {
            keptSize = 0;
            aheadSize = 0;
            pushAhead(first, 1);
            keepNext();
            if (!plane) {
                return;
            }
            pushAhead(first, -1);
            pushAhead(second, 1);
            for (int turn = 0; turn < MOST_TURNS && aheadSize > 0; turn++) {
                int last = (keptSize - 1) * MOST_UNKNOWNS;
                int next = (aheadSize - 1) * MOST_UNKNOWNS;
                if (haveOppositeSigns(last, next)) {
                    pushSum(last, next);
                } else {
                    keepNext();
                }
            }
            // The last one kept is the first one turned about.
            keptSize--;
        }

        /** All that were kept, and these turned about. */
        void giveTo(VectorList list) {
            for (int i = 0; i < keptSize; i++) {
                list.append(kept, i * MOST_UNKNOWNS, 1);
                list.append(kept, i * MOST_UNKNOWNS, -1);
            }
        }

        private void pushAhead(long[] vector, int sign) {
            if (aheadSize >= MOST_AHEAD) {
                return;
            }
            for (int u = 0; u < MOST_UNKNOWNS; u++) {
                ahead[aheadSize * MOST_UNKNOWNS + u] = (int) (sign * vector[u]);
            }
            aheadSize++;
        }

        private void pushSum(int last, int next) {
            if (aheadSize >= MOST_AHEAD) {
                return;
            }
            for (int u = 0; u < MOST_UNKNOWNS; u++) {
                ahead[aheadSize * MOST_UNKNOWNS + u] = kept[last + u] + ahead[next + u];
            }
            aheadSize++;
        }

        private void keepNext() {
            if (aheadSize <= 0 || keptSize >= MOST_KEPT) {
                return;
            }
            aheadSize--;
            int next = aheadSize * MOST_UNKNOWNS;
            System.arraycopy(ahead, next, kept, keptSize * MOST_UNKNOWNS, MOST_UNKNOWNS);
            keptSize++;
        }

        private boolean haveOppositeSigns(int last, int next) {
            for (int u = 0; u < MOST_UNKNOWNS; u++) {
                if ((long) kept[last + u] * ahead[next + u] < 0) {
                    return true;
                }
            }
            return false;
        }
    }

    /**
     * The LEAST STEPS where at most one equation binds: a least step has no more parts on either
     * side of it than the greatest coefficient on the other side, so a small box holds them all.
     */
    private static final class Box {
        private static final int MOST_WEIGHT = GREATEST_COEFFICIENT * GREATEST_COEFFICIENT;

        private final Model model;
        private final VectorList found;
        private final int[] coefficients = new int[MOST_UNKNOWNS];
        private final int[] reaches = new int[MOST_UNKNOWNS];
        private final int[] vector = new int[MOST_UNKNOWNS];
        private int solved;

        Box(Model model, VectorList found) {
            this.model = model;
            this.found = found;
        }

        void search() {
            chooseEquation();
            Arrays.fill(vector, 0);
            solved = -1;
            for (int u = 0; u < model.unknowns; u++) {
                reaches[u] = reachOf(u);
                if (coefficients[u] != 0) {
                    solved = u;
                }
            }
            searchFrom(0, 0, 0);
        }

        /** The first that is not all 0: the others are its multiples. */
        private void chooseEquation() {
            Arrays.fill(coefficients, 0);
            for (int e = 0; e < model.equations; e++) {
                for (int u = 0; u < model.unknowns; u++) {
                    if (model.coefficients[e][u] != 0) {
                        System.arraycopy(model.coefficients[e], 0, coefficients, 0, model.unknowns);
                        return;
                    }
                }
            }
        }

        private int reachOf(int u) {
            if (coefficients[u] == 0) {
                return 1;
            }
            int reach = 0;
            for (int v = 0; v < model.unknowns; v++) {
                if (v != u) {
                    reach = Math.max(reach, Math.abs(coefficients[v]));
                }
            }
            return reach;
        }

        /** All numbers for the unknowns from u on; what weighs above and below 0 before u. */
        private void searchFrom(int u, int above, int below) {
            if (above > MOST_WEIGHT || below > MOST_WEIGHT) {
                return;
            }
            if (u < 0 || u >= model.unknowns) {
                if (above == below && isLeast(above)) {
                    found.append(vector, 0, 1);
                }
                return;
            }
            tryNumbers(u, above, below);
        }

        private void tryNumbers(int u, int above, int below) {
            int coefficient = coefficients[u];
            int from = -reaches[u];
            int to = reaches[u];
            if (u == solved && coefficient != 0) {
                int due = (below - above) / coefficient;
                from = Math.max(from, due);
                to = Math.min(to, due);
            }
            for (int number = from; number <= to; number++) {
                int weight = coefficient * number;
                vector[u] = number;
                searchFrom(u + 1, above + Math.max(weight, 0), below + Math.max(-weight, 0));
            }
        }

        /**
         * A step within the vector weighs the same on both sides: bit w of a mask tells whether
         * parts of that side weigh w together. Only nothing and all may be there on both.
         */
        private boolean isLeast(int weight) {
            long aboveMask = 1;
            long belowMask = 1;
            int free = 0;
            for (int u = 0; u < model.unknowns; u++) {
                int parts = Math.abs(vector[u]);
                int each = Math.abs(coefficients[u]);
                boolean isAbove = (vector[u] > 0) == (coefficients[u] > 0);
                if (each == 0) {
                    free += parts;
                    parts = 0;
                }
                for (int p = 0; p < parts; p++) {
                    if (isAbove) {
                        aboveMask |= aboveMask << each;
                    } else {
                        belowMask |= belowMask << each;
                    }
                }
            }
            if (free > 0) {
                return free == 1 && weight == 0;
            }
            return weight > 0 && (aboveMask & belowMask) == (1L | 1L << weight);
        }
    }

    /**
     * All PLANS in their order. They come in blocks of one length: if the last unknown stands in no
     * equation, a block has all its numbers, else it is one plan. Of a block the first plan is held,
     * its numbers as the digits of one int, so that the order of the ints is the order of the plans.
     */
    private static final class Plans {
        private static final int BASE = 2 * GREATEST_BOUND + 1;
        private static final int MOST_BLOCKS = BASE * BASE * BASE;
        // Each halves what is left of the blocks, of which there are fewer than 2^14.
        private static final int MOST_HALVINGS = 20;

        private final Model model;
        private final int[] blocks = new int[MOST_BLOCKS];
        private final int[] row = new int[MOST_UNKNOWNS];
        private final int[] froms = new int[MOST_UNKNOWNS];
        private final int[] tos = new int[MOST_UNKNOWNS];
        // For each equation: what is due from the unknowns from u on; the least, the greatest
        // that they can give.
        private final int[][] due = new int[MOST_UNKNOWNS + 1][MOST_EQUATIONS];
        private final int[][] leastSums = new int[MOST_UNKNOWNS + 1][MOST_EQUATIONS];
        private final int[][] greatestSums = new int[MOST_UNKNOWNS + 1][MOST_EQUATIONS];
        private int blockCount;
        private int blockLength;
        private boolean lastIsFree;
        boolean stale = true;

        Plans(Model model) {
            this.model = model;
        }

        void refresh() {
            if (!stale) {
                return;
            }
            stale = false;
            blockCount = 0;
            int last = model.unknowns - 1;
            lastIsFree = model.isFree(last);
            blockLength = lastIsFree ? Math.max(0, model.highs[last] - model.lows[last] + 1) : 1;
            for (int u = 0; u <= last; u++) {
                if (model.lows[u] > model.highs[u]) {
                    return;
                }
            }
            findSums();
            searchFrom(0, 0);
        }

        int size() {
            return blockCount * blockLength;
        }

        boolean isNumber(int i) {
            return i >= 0 && i < size();
        }

        /** i is the number of a plan. */
        void read(int i, int[] vector) {
            if (blockLength <= 0) {
                return;
            }
            readBlock(i / blockLength, vector);
            vector[model.unknowns - 1] += i % blockLength;
        }

        /** The vector is a plan. */
        int numberOf(int[] vector) {
            int last = model.unknowns - 1;
            int offset = lastIsFree ? vector[last] - model.lows[last] : 0;
            int digits = 0;
            for (int u = 0; u <= last; u++) {
                digits = digits * BASE + vector[u] + GREATEST_BOUND;
            }
            return blockOf(digits - offset) * blockLength + offset;
        }

        int leastOf(int u) {
            int least = GREATEST_BOUND;
            for (int b = 0; b < blockCount; b++) {
                least = Math.min(least, digitOf(b, u));
            }
            return least;
        }

        int greatestOf(int u) {
            int greatest = -GREATEST_BOUND;
            for (int b = 0; b < blockCount; b++) {
                greatest = Math.max(greatest, digitOf(b, u));
            }
            return u == model.unknowns - 1 ? greatest + blockLength - 1 : greatest;
        }

        /** The first plan of the least cost times a sign; there is a plan. */
        int firstOfCost(int sign) {
            int bestBlock = 0;
            long bestCost = 0;
            for (int b = 0; b < blockCount; b++) {
                readBlock(b, row);
                long cost = sign * model.costOf(row);
                if (b == 0 || cost < bestCost) {
                    bestBlock = b;
                    bestCost = cost;
                }
            }
            // In all blocks the last unknown costs the same, so one place is best in each of them.
            return bestBlock * blockLength + firstInBlock(bestBlock, sign);
        }

        private int firstInBlock(int block, int sign) {
            int last = model.unknowns - 1;
            int first = digitOf(block, last);
            int bestOffset = 0;
            long bestCost = 0;
            for (int offset = 0; offset < blockLength; offset++) {
                long cost = sign * model.costOfNumber(last, first + offset);
                if (offset == 0 || cost < bestCost) {
                    bestOffset = offset;
                    bestCost = cost;
                }
            }
            return bestOffset;
        }

        private void readBlock(int block, int[] vector) {
            int digits = blocks[block];
            Arrays.fill(vector, 0);
            for (int u = model.unknowns - 1; u >= 0; u--) {
                vector[u] = digits % BASE - GREATEST_BOUND;
                digits /= BASE;
            }
        }

        private int digitOf(int block, int u) {
            int digits = blocks[block];
            for (int behind = model.unknowns - 1; behind > u; behind--) {
                digits /= BASE;
            }
            return digits % BASE - GREATEST_BOUND;
        }

        private int blockOf(int digits) {
            int from = 0;
            int to = blockCount - 1;
            for (int halving = 0; halving < MOST_HALVINGS && from < to; halving++) {
                int middle = (from + to) / 2;
                if (blocks[middle] < digits) {
                    from = middle + 1;
                } else {
                    to = middle;
                }
            }
            return from;
        }

        private void findSums() {
            for (int e = 0; e < model.equations; e++) {
                due[0][e] = model.rightSides[e];
                leastSums[model.unknowns][e] = 0;
                greatestSums[model.unknowns][e] = 0;
                for (int u = model.unknowns - 1; u >= 0; u--) {
                    int atLow = model.coefficients[e][u] * model.lows[u];
                    int atHigh = model.coefficients[e][u] * model.highs[u];
                    leastSums[u][e] = leastSums[u + 1][e] + Math.min(atLow, atHigh);
                    greatestSums[u][e] = greatestSums[u + 1][e] + Math.max(atLow, atHigh);
                }
            }
        }

        /** All numbers for the unknowns from u on, behind the digits of those before. */
        private void searchFrom(int u, int digits) {
            if (u < 0 || u >= model.unknowns) {
                return;
            }
            froms[u] = model.lows[u];
            tos[u] = model.highs[u];
            for (int e = 0; e < model.equations; e++) {
                narrow(u, e);
            }
            if (u < model.unknowns - 1) {
                tryNumbers(u, digits);
            } else if (froms[u] <= tos[u]) {
                appendBlock(digits * BASE + froms[u] + GREATEST_BOUND);
            }
        }

        private void tryNumbers(int u, int digits) {
            for (int number = froms[u]; number <= tos[u]; number++) {
                for (int e = 0; e < model.equations; e++) {
                    due[u + 1][e] = due[u][e] - model.coefficients[e][u] * number;
                }
                searchFrom(u + 1, digits * BASE + number + GREATEST_BOUND);
            }
        }

        /** Leaves the numbers of an unknown behind which an equation can still be met. */
        private void narrow(int u, int e) {
            int coefficient = model.coefficients[e][u];
            int least = due[u][e] - greatestSums[u + 1][e];
            int greatest = due[u][e] - leastSums[u + 1][e];
            if (coefficient > 0) {
                froms[u] = Math.max(froms[u], -Math.floorDiv(-least, coefficient));
                tos[u] = Math.min(tos[u], Math.floorDiv(greatest, coefficient));
            } else if (coefficient < 0) {
                froms[u] = Math.max(froms[u], -Math.floorDiv(-greatest, coefficient));
                tos[u] = Math.min(tos[u], Math.floorDiv(least, coefficient));
            } else if (least > 0 || greatest < 0) {
                tos[u] = froms[u] - 1;
            }
        }

        private void appendBlock(int digits) {
            if (blockCount < MOST_BLOCKS) {
                blocks[blockCount] = digits;
                blockCount++;
            }
        }
    }
}
