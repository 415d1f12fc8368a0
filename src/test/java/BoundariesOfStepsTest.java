/** Promises 12 to 24: each sentence that names a boundary case, with an object of its own. */
public final class BoundariesOfStepsTest {
    private static final Script SCRIPT = new Script("BoundariesOfStepsTest");

    /**
     * x + y = 2 z; its least steps: 0 (-2, 0, -1), 1 (-1, -1, -1), 2 (-1, 1, 0), 3 (0, -2, -1) and
     * their backs 4 (0, 2, 1), 5 (1, -1, 0), 6 (1, 1, 1), 7 (2, 0, 1).
     */
    private static final String MEAN = "works(3); row 1 1 -2";
    private static final String HALF = "works(2); row 1 -2";
    private static final String NO_STEPS = "works(2); row 1 2 = 4; row 2 1 = 5";

    public static void main(String[] args) {
        least();
        leastAnew();
        step();
        kind();
        back();
        handAndHas();
        what();
        fits();
        split();
        splitRefused();
        add();
        addRefused();
        cost();
        better();
        betterRefused();
        best();
        SCRIPT.end();
    }

    private static void test(int promise, String sentence, String... lines) {
        SCRIPT.test(promise, sentence, lines);
    }

    private static void least() {
        test(12, "there are none", NO_STEPS, "least() = 0; refused");
        test(12, "one UNKNOWN, no EQUATIONS: there and back", "least() = 2; step 0 is -1; step 1 is 1");
        test(12, "one UNKNOWN, bound by an EQUATION",
            "row 6; least() = 0; put(0, 0, 0) = 6; least() = 2; put(0, 0, -1) = 0; least() = 0");
        test(12, "four UNKNOWNS, no EQUATIONS",
            "works(4); least() = 8; step 0 is -1 0 0 0; step 3 is 0 0 0 -1; step 4 is 0 0 0 1; step 7 is 1 0 0 0");
        test(12, "four UNKNOWNS, three EQUATIONS of 0s alone", "works(4); row 0 0 0 0; row 0 0 0 0; row 0 0 0 0; least() = 8");
        test(12, "EQUATIONS that say the same",
            "works(2); row 1 2; row -2 -4; row 3 6; least() = 2; step 0 is -2 1; step 1 is 2 -1");
        test(12, "no STEP FITS within it: no multiples", "works(2); row 6 -4; least() = 2; step 0 is -2 -3; step 1 is 2 3");
        test(12, "RIGHT SIDES, BOUNDS and PRICES do not matter",
            "works(2); row 1 2; least() = 2; right(0, 200); bound(0, 5, 4); bound(1, -10, -10); price(0, 99, 99); hand 7 7",
            "least() = 2; step 0 is -2 1");
        test(12, "the most of one EQUATION", "works(4); row 5 5 6 6; least() = 88; step(87, 0) = 6; step(88, 0) = NONE");
        test(12, "the most of all", "works(4); row -5 6 0 0; row 6 6 -1 1; least() = 136; step(135, 0) = 6; step(136, 0) = NONE");
        test(12, "three EQUATIONS, far numbers",
            "works(4); row 5 6 0 6; row -6 -6 5 6; row 6 -6 6 5; least() = 2; step 0 is -102 451 858 -366",
            "step 1 is 102 -451 -858 366");
    }

    private static void leastAnew() {
        test(12, "EQUATIONS of before works() do not count",
            "works(4); row 5 5 6 6; least() = 88; works(4); least() = 8; step 0 is -1 0 0 0; step 7 is 1 0 0 0");
        test(12, "UNKNOWNS of before works() do not count",
            "works(4); least() = 8; works(3); least() = 6; step 0 is -1 0 0; hand 1 0 0; fits(5) = 1; split(5) = 1",
            "add(5, 2) = 1; hand is 3 0 0");
        test(12, "an EQUATION of the first UNKNOWN alone",
            "works(4); row 3 0 0 0; least() = 6; step 0 is 0 -1 0 0; step 5 is 0 1 0 0");
        test(12, "an EQUATION of the last UNKNOWN alone",
            "works(4); row 0 0 0 -6; least() = 6; step 0 is -1 0 0 0; step 3 is 0 0 1 0");
        test(12, "an EQUATION of 0s before another one",
            "works(4); row 0 0 0 0; row 1 0 0 -6; least() = 6; step 0 is -6 0 0 -1; step 1 is 0 -1 0 0; step 5 is 6 0 0 1");
        test(12, "the greatest COEFFICIENT at the first UNKNOWN alone",
            "works(4); row 6 1 1 1; least() = 62; step 0 is -1 0 0 6; step 27 is -1 6 0 0; step 28 is 0 -1 0 1",
            "step 34 is 1 -6 0 0; step 61 is 1 0 0 -6");
        test(12, "the greatest COEFFICIENT at the last UNKNOWN alone",
            "works(4); row 1 1 1 6; least() = 62; step 0 is -6 0 0 1; step 61 is 6 0 0 -1");
    }

    private static void step() {
        test(13, "numbered by the first numbers that differ, the lesser first",
            MEAN, "least() = 8; step 0 is -2 0 -1; step 1 is -1 -1 -1; step 2 is -1 1 0; step 3 is 0 -2 -1",
            "step 4 is 0 2 1; step 5 is 1 -1 0; step 6 is 1 1 1; step 7 is 2 0 1");
        test(13, "NONE: no such STEP",
            MEAN, "step(8, 0) = NONE; step(-1, 0) = NONE; step(MIN, 0) = NONE; step(MAX, 0) = NONE; refused");
        test(13, "NONE: no such UNKNOWN",
            MEAN, "step(0, 3) = NONE; step(0, -1) = NONE; step(0, MIN) = NONE; step(0, MAX) = NONE; refused");
        test(13, "NONE: neither", MEAN, "step(8, 3) = NONE; step(-1, -1) = NONE; refused");
        test(13, "NONE: there are no STEPS", NO_STEPS, "step(0, 0) = NONE; step(-1, 0) = NONE; refused");
        test(13, "an UNKNOWN in no EQUATION", "works(2); row 0 5; least() = 2; step 0 is -1 0; step 1 is 1 0");
    }

    private static void kind() {
        test(14, "3 ROUND comes first, though no number is below 0",
            "works(2); row 1 -1; step 1 is 1 1; kind(1) = 3; kind(0) = 3");
        test(14, "3 ROUND though another STEP has the same 0s", "works(2); row 2 -3; kind(0) = 3; kind(1) = 3; count(4) = 2");
        test(14, "2 PURE: no number is below 0", MEAN, "kind(6) = 2; count(3) = 1");
        test(14, "2 PURE: a number may be 0",
            "works(4); row 1 1 -2 0; least() = 10; step 8 is 1 1 1 0; kind(8) = 2; step 4 is 0 0 0 -1; kind(4) = 3",
            "count(3) = 1");
        test(14, "1 MIXED: all numbers are below 0", MEAN, "kind(1) = 1; count(2) = 1");
        test(14, "1 MIXED: one number is below 0, the first, the second or the last",
            "works(3); row 2 1 1; step 1 is -1 1 1; kind(1) = 1; works(3); row 1 2 1; least() = 8; step 5 is 1 -1 1; kind(5) = 1",
            "works(3); row 1 1 2; step 6 is 1 1 -1; kind(6) = 1");
        test(14, "3 ROUND: one UNKNOWN alone",
            "works(3); kind(0) = 3; kind(1) = 3; kind(2) = 3; kind(3) = 3; kind(4) = 3; kind(5) = 3",
            "count(2) = 0; count(3) = 0; count(4) = 6");
        test(14, "KINDS of before works() do not count",
            "works(3); row 1 -1 0; row 0 1 -1; step 1 is 1 1 1; kind(1) = 3", MEAN, "kind(6) = 2; kind(1) = 1");
        test(14, "0: no such STEP", MEAN, "kind(8) = 0; kind(-1) = 0; kind(MIN) = 0; kind(MAX) = 0; refused");
        test(14, "0: there are no STEPS", NO_STEPS, "kind(0) = 0; refused");
    }

    private static void back() {
        test(15, "the first and the last", MEAN, "back(0) = 7; back(7) = 0; refused");
        test(15, "those in the middle", MEAN, "back(3) = 4; back(4) = 3; back(1) = 6; back(2) = 5");
        test(15, "-1 no such STEP", MEAN, "back(8) = -1; back(-1) = -1; back(MIN) = -1; back(MAX) = -1; refused 4");
        test(15, "-1 there are no STEPS", NO_STEPS, "back(0) = -1; back(-1) = -1; refused 2");
    }

    private static void handAndHas() {
        test(16, "-10000 and 10000 are the edges; what it was",
            "works(2); hand(1, -10000) = 0; hand(1, 10000) = -10000; hand(1, 0) = 10000; hand is 0 0; refused");
        test(16, "what it was may look like a refusal, and is none",
            "hand(0, -1) = 0; hand(0, -6) = -1; hand(0, -4) = -6; hand(0, 0) = -4; refused");
        test(16, "-1 answers NONE",
            "works(2); hand 3 4; hand(2, 0) = NONE; hand(-1, 0) = NONE; hand(4, 0) = NONE; hand(MIN, 0) = NONE",
            "hand(MAX, 0) = NONE",
            "hand is 3 4; refused 5");
        test(16, "NONE below -10000 (-4)",
            "hand 3; hand(0, -10001) = NONE; hand(0, MIN) = NONE; hand(0, NONE) = NONE; hand is 3; refused 0 0 0 3");
        test(16, "NONE above 10000 (-6)", "hand 3; hand(0, 10001) = NONE; hand(0, MAX) = NONE; hand is 3; refused 0 0 0 0 0 2");
        test(16, "-1 is told before -4 and -6", "hand(1, -10001) = NONE; hand(1, 10001) = NONE; refused 2");
        test(17, "the first and the last UNKNOWN", "works(4); hand 5 0 0 -7; has(0) = 5; has(3) = -7; refused");
        test(17, "NONE, and nothing is refused",
            "works(2); has(2) = NONE; has(3) = NONE; has(-1) = NONE; has(MIN) = NONE; has(MAX) = NONE; refused");
    }

    private static void what() {
        test(18, "0 neither", "works(2); row 1 -2; hand 3 1; what() = 0; refused");
        test(18, "1 a STEP that is no PLAN",
            "works(2); row 1 -2; hand 20 10; what() = 1; hand -2 -1; what() = 1; right(0, 1); hand 2 1; what() = 1");
        test(18, "2 a PLAN that is no STEP", "works(2); row 1 -2 = 1; hand 3 1; what() = 2");
        test(18, "3 both", "works(2); row 1 -2; hand 2 1; what() = 3");
        test(18, "all 0 is no STEP", "works(2); row 1 -2; what() = 2; bound(1, 1, 10); what() = 0");
        test(18, "all 0, of four UNKNOWNS, is no STEP",
            "works(4); what() = 2; row 1 2 3 4; row 4 3 2 1; row 1 1 1 1; what() = 2; right(2, 1) = 0; what() = 0");
        test(18, "three EQUATIONS and a STEP",
            "works(4); row 1 -1 0 0; row 0 1 -1 0; row 0 0 1 -1; hand 7 7 7 7; what() = 3; hand 11 11 11 11; what() = 1",
            "hand 7 7 7 8; what() = 0; hand 8 7 7 7; what() = 0");
        test(18, "LOW and HIGH belong to it",
            "works(2); bound(0, -3, 4); bound(1, 2, 5); hand -3 2; what() = 3; hand 4 5; what() = 3",
            "hand -4 2; what() = 1; hand 5 5; what() = 1; hand 4 6; what() = 1; hand 4 1; what() = 1");
        test(18, "LOW above HIGH: no PLAN", "bound(0, 1, 0); hand 0; what() = 0; hand 1; what() = 1");
        test(18, "each EQUATION, the last one too",
            "works(2); row 1 1 = 3; row 1 -1 = 1; row 1 0 = 2; hand 2 1; what() = 2; right(2, 1); what() = 0; right(2, 2)",
            "right(0, 4); what() = 0");
        test(18, "the HAND is far out",
            "works(4); row 6 6 6 6; hand 10000 10000 -10000 -10000; what() = 1; hand 10000 10000 10000 10000; what() = 0");
    }

    private static void fits() {
        test(19, "the HAND is the STEP itself", MEAN, "hand 1 1 1; fits(6) = 1; fits(7) = 0; fits(1) = 0; refused");
        test(19, "one number is nearer to 0 than the STEP's",
            MEAN, "hand 2 0 0; fits(7) = 0; hand 1 0 1; fits(7) = 0; hand 2 0 1; fits(7) = 1");
        test(19, "one number has the other sign",
            MEAN, "hand 5 5 -5; fits(6) = 0; hand -5 5 5; fits(6) = 0; hand 5 -5 5; fits(6) = 0; fits(5) = 1");
        test(19, "a number of the STEP is 0: the HAND's there does not matter",
            MEAN, "hand 2 -9 1; fits(7) = 1; hand 2 9 1; fits(7) = 1; hand 2 0 1; fits(7) = 1");
        test(19, "numbers below 0", MEAN, "hand -1 -1 -1; fits(1) = 1; fits(0) = 0; hand -2 -1 -1; fits(0) = 1; fits(1) = 1");
        test(19, "the HAND is all 0", MEAN, "fits(0) = 0; fits(3) = 0; fits(4) = 0; fits(7) = 0; refused");
        test(19, "the HAND need be neither STEP nor PLAN", MEAN, "hand 10000 0 3; what() = 0; fits(7) = 1; fits(6) = 0; refused");
        test(19, "-1 no such STEP", MEAN, "fits(8) = -1; fits(-1) = -1; fits(MIN) = -1; fits(MAX) = -1; refused 4");
        test(19, "-1 there are no STEPS", NO_STEPS, "fits(0) = -1; refused 1");
    }

    private static void split() {
        test(20, "by their numbers, each as often as it FITS within what is left",
            MEAN, "hand -5 -3 -4; split(0) = 2; split(1) = 1; split(2) = 0; split(3) = 1; split(4) = 0; split(5) = 0",
            "split(6) = 0; split(7) = 0",
            "count(6) = 4; hand is -5 -3 -4; refused");
        test(20, "its back is split otherwise",
            MEAN, "hand 5 3 4; split(4) = 1; split(6) = 1; split(7) = 2; split(5) = 0; count(6) = 4");
        test(20, "a LEAST STEP is all of its own SPLIT",
            MEAN, "hand 1 1 1; split(6) = 1; split(4) = 0; split(7) = 0; count(6) = 1; hand -1 -1 -1; split(1) = 1",
            "split(0) = 0; count(6) = 1");
        test(20, "signs of two kinds", "works(3); row 1 1 1; hand 2 -1 -1; split(4) = 1; split(5) = 1; count(6) = 2");
        test(20, "the HAND at its edges",
            "hand 10000; split(1) = 10000; split(0) = 0; count(6) = 10000; hand -10000; split(0) = 10000; split(1) = 0",
            "count(6) = 10000");
        test(20, "all at its edges",
            "works(4); hand 10000 -10000 10000 -10000; split(7) = 10000; split(0) = 0; split(1) = 10000; count(6) = 40000");
        test(20, "all is used up", "works(2); row 3 -5; hand 10000 6000; split(1) = 2000; split(0) = 0; count(6) = 2000");
    }

    private static void splitRefused() {
        test(20, "-1 no such STEP",
            MEAN, "hand 1 1 1; split(8) = -1; split(-1) = -1; split(MIN) = -1; split(MAX) = -1; refused 4");
        test(20, "-5 the HAND is no STEP", MEAN, "hand 1 1 2; split(0) = -5; split(7) = -5; count(6) = 0; refused 0 0 0 0 2");
        test(20, "-5 the HAND is all 0", MEAN, "split(0) = -5; count(6) = 0; refused 0 0 0 0 1");
        test(20, "-5 the HAND is a PLAN alone", "works(2); row 1 1 = 3; hand 1 2; what() = 2; split(0) = -5; refused 0 0 0 0 1");
        test(20, "-1 is told before -5", MEAN, "split(8) = -1; hand 1 1 2; split(-1) = -1; refused 2");
        test(20, "-1 there are no STEPS, and the HAND is none", NO_STEPS, "split(0) = -1; hand 1 0; split(0) = -1; refused 2");
    }

    private static void add() {
        test(21, "once", MEAN, "hand 5 5 5; add(7, 1) = 1; hand is 7 5 6; refused");
        test(21, "t is 0", MEAN, "hand 5 5 5; add(7, 0) = 1; hand is 5 5 5; refused");
        test(21, "t is below 0", MEAN, "hand 5 5 5; add(7, -3) = 1; hand is -1 5 2; refused");
        test(21, "up to 10000",
            HALF, "add(1, 5000) = 1; hand is 10000 5000; hand 0 9999; add(1, 1) = 1; hand is 2 10000; refused");
        test(21, "down to -10000",
            HALF, "add(0, 5000) = 1; hand is -10000 -5000; hand 0 -9999; add(1, -1) = 1; hand is -2 -10000; refused");
        test(21, "from edge to edge",
            HALF, "hand -10000 0; add(1, 10000) = 1; hand is 10000 10000; add(1, -10000) = 1; hand is -10000 0; refused");
        test(21, "a HAND at its edge that stays there",
            MEAN, "hand 10000 -10000 10000; add(7, 0) = 1; add(2, 1) = 1; hand is 9999 -9999 10000; refused");
        test(21, "the HAND need be neither STEP nor PLAN", HALF, "hand 1 10; what() = 0; add(1, 1) = 1; hand is 3 11; refused");
    }

    private static void addRefused() {
        test(21, "-1 no such STEP",
            MEAN, "hand 1 2 3; add(8, 1) = -1; add(-1, 1) = -1; add(MIN, 0) = -1; add(MAX, 0) = -1; hand is 1 2 3; refused 4");
        test(21, "-1 there are no STEPS", NO_STEPS, "add(0, 0) = -1; refused 1");
        test(21, "-4 some number would be below -10000, the first or the last",
            HALF, "hand -9999 0; add(0, 1) = -4; hand is -9999 0; hand 0 -10000; add(0, 1) = -4; hand is 0 -10000",
            "refused 0 0 0 2");
        test(21, "-6 some number would be above 10000, the first or the last",
            HALF, "hand 9999 0; add(1, 1) = -6; hand is 9999 0; hand 0 10000; add(1, 1) = -6; hand is 0 10000",
            "refused 0 0 0 0 0 2");
        test(21, "-4 is told before -6, though the one above comes first",
            "works(2); row 1 1; hand 10000 -10000; add(1, 1) = -4; hand -10000 10000; add(0, 1) = -4; hand is -10000 10000",
            "refused 0 0 0 2");
        test(21, "-1 is told before -4 and -6", HALF, "add(2, MAX) = -1; add(2, MIN) = -1; refused 2");
        test(21, "-6 though t times the number wraps around",
            HALF, "hand 0 5; add(1, MAX) = -6; add(0, MIN) = -6; add(1, 2147483600) = -6; hand is 0 5; refused 0 0 0 0 0 3");
        test(21, "-4 though t times the number wraps around",
            HALF, "hand 0 -5; add(1, MIN) = -4; add(0, MAX) = -4; hand is 0 -5; refused 0 0 0 2");
    }

    private static void cost() {
        test(22, "the greatest",
            "works(4); price(0, 99, 99); price(1, 99, 99); price(2, -99, 99); price(3, -99, 99)",
            "hand 10000 10000 -10000 -10000; cost() = 39603960000");
        test(22, "the least",
            "works(4); price(0, -99, 0); price(1, -99, 0); price(2, 99, 0); price(3, 99, 0); hand 10000 10000 -10000 -10000",
            "cost() = -3960000");
        test(22, "a square is not below 0",
            "price(0, 0, 2); hand -3; cost() = 18; price(0, 5, 2); cost() = 3; price(0, -5, 2); cost() = 33");
        test(22, "the HAND need be neither STEP nor PLAN",
            "works(2); row 1 1; price(1, 4, 1); hand 7 11; what() = 0; cost() = 165; refused");
        test(22, "all 0", "works(2); price(0, 99, 99); price(1, 99, 99); cost() = 0");
    }

    private static void better() {
        test(23, "the number of the STEP, and the HAND is that PLAN",
            "works(2); row 1 1 = 10; price(0, 0, 1); price(1, 0, 1); hand 0 10; better() = 1; hand is 5 5; refused");
        test(23, "NONE if there is none such; the HAND stays", "price(0, 1, 0); hand 0; better() = NONE; hand is 0; refused");
        test(23, "NONE: as much is not less",
            "hand 5; better() = NONE; price(0, -1, 1); hand 0; better() = NONE; hand is 0; hand 1; better() = NONE; hand is 1");
        test(23, "NONE: there are no STEPS",
            "row 2 = 6; price(0, 9, 9); hand 3; what() = 2; better() = NONE; hand is 3; refused");
        test(23, "NONE: what costs less is no PLAN",
            "bound(0, 3, 4); price(0, 1, 0); hand 3; better() = NONE; price(0, -1, 0); hand 4; better() = NONE; hand is 4");
        test(23, "NONE: what costs less is a STEP of before",
            "works(2); least() = 4; row 1 -1; price(0, 9, 0); price(1, -9, 0); better() = NONE; hand is 0 0");
        test(23, "the COST behind it is least, not that of one time",
            "works(2); bound(0, 0, 1); price(0, -3, 0); price(1, -1, 0); better() = 2; hand is 0 10");
        test(23, "the COST behind it is least, not the first that is less",
            "works(2); price(0, -3, 0); price(1, -1, 0); better() = 3; hand is 10 0");
        test(23, "of several the STEP of the least number",
            "works(2); bound(0, 0, 1); bound(1, 0, 1); price(0, -1, 0); price(1, -1, 0); better() = 2; hand is 0 1",
            "better() = 3; hand is 1 1; better() = NONE");
        test(23, "of several the STEP of the least number, though another takes fewer times",
            "works(2); price(1, -1, 0); price(0, -10, 0); bound(0, 0, 1); better() = 2; hand is 0 10");
        test(23, "of these the least t, upwards", "price(0, -11, 1); better() = 1; hand is 5; better() = NONE");
        test(23, "of these the least t, downwards", "price(0, -11, 1); hand 10; better() = 0; hand is 6; better() = NONE");
        test(23, "t is 1",
            "price(0, -1, 0); hand 9; better() = 1; hand is 10; bound(0, 0, 1); hand 1; price(0, 1, 0); better() = 0; hand is 0");
        test(23, "t is 20, the greatest",
            "bound(0, -10, 10); price(0, -1, 0); hand -10; better() = 1; hand is 10; price(0, 1, 0); better() = 0; hand is -10");
        test(23, "up to LOW and HIGH",
            "works(2); row 2 -1; bound(0, 1, 4); bound(1, 3, 7); price(0, -5, 0); hand 2 4; better() = 1; hand is 3 6",
            "better() = NONE; price(0, 5, 0); better() = 0; hand is 2 4");
        test(23, "PRICES and BENDS at their edges",
            "works(2); row 1 1; bound(0, -10, 10); bound(1, -10, 10); price(0, 99, 99); price(1, -99, 99); hand 10 -10",
            "better() = 0; hand is 0 0",
            "cost() = 0; better() = NONE");
    }

    private static void betterRefused() {
        test(23, "-5 the HAND is no PLAN: out of BOUNDS",
            "price(0, 1, 0); hand 11; better() = -5; hand is 11; hand -1; better() = -5; hand is -1; refused 0 0 0 0 2");
        test(23, "-5 the HAND is no PLAN: an EQUATION is not met",
            "works(2); row 1 1 = 3; price(0, 1, 0); hand 1 1; better() = -5; hand is 1 1; refused 0 0 0 0 1");
        test(23, "-5 the HAND is a STEP alone", "works(2); row 1 1 = 3; hand 1 -1; what() = 1; better() = -5; refused 0 0 0 0 1");
        test(23, "-5 LOW is above HIGH", "bound(0, 1, 0); better() = -5; hand 1; better() = -5; refused 0 0 0 0 2");
    }

    private static void best() {
        test(24, "how often: 0, if the HAND is a best one", "best() = 0; price(0, 1, 0); best() = 0; hand is 0; refused");
        test(24, "once", "price(0, -1, 0); best() = 1; hand is 10; best() = 0; better() = NONE; refused");
        test(24, "more than once",
            "works(4); price(0, -3, 0); price(1, -2, 0); price(2, -1, 0); best() = 3; hand is 10 10 10 0; best() = 0; refused");
        test(24, "there are no STEPS", "row 2 = 6; hand 3; best() = 0; hand is 3; refused");
        test(24, "a best PLAN costs as little as any",
            "works(3); row 1 2 3 = 12; price(0, 3, 0); price(1, -2, 1); price(2, 1, 0); take(17) = 1; hand is 10 1 0",
            "cost() = 29",
            "best() = 2; hand is 0 0 4; cost() = 4; find() = 0; extreme(0) = 0; take(17); better() = 0; hand is 1 1 3",
            "better() = 2; hand is 0 0 4");
        test(24, "-5 the HAND is no PLAN",
            "price(0, -1, 0); hand 11; best() = -5; hand is 11; hand -1; best() = -5; hand is -1; refused 0 0 0 0 2");
        test(24, "-5 LOW is above HIGH", "bound(0, 1, 0); best() = -5; refused 0 0 0 0 1");
        test(24, "-5 an EQUATION is not met", "works(2); row 1 1 = 3; hand 1 1; best() = -5; hand is 1 1; refused 0 0 0 0 1");
    }
}
