/** Promises 25 to 33: each sentence that names a boundary case, with an object of its own. */
public final class BoundariesOfPlansTest {
    private static final Script SCRIPT = new Script("BoundariesOfPlansTest");

    /** x + y + z = 2; its plans: 0 002, 1 011, 2 020, 3 101, 4 110, 5 200. */
    private static final String TWO_OF_THREE = "works(3); row 1 1 1 = 2";
    private static final String NO_PLANS = "works(2); row 2 4 = 5";
    private static final String WIDE = "bound(0, -10, 10)";

    public static void main(String[] args) {
        plans();
        plan();
        take();
        less();
        lessRefused();
        find();
        span();
        extreme();
        near();
        count();
        countSplit();
        countRefusals();
        SCRIPT.end();
    }

    private static void test(int promise, String sentence, String... lines) {
        SCRIPT.test(promise, sentence, lines);
    }

    private static void plans() {
        test(25, "none: no whole numbers meet the EQUATION", NO_PLANS, "plans() = 0; refused");
        test(25, "none: out of BOUNDS",
            "row 1 = 11; plans() = 0; right(0, 10); plans() = 1; right(0, -1); plans() = 0; right(0, 0); plans() = 1");
        test(25, "none: LOW above HIGH",
            "works(4); plans() = 14641; bound(3, 1, 0); plans() = 0; bound(3, 0, 0); plans() = 1331");
        test(25, "none: an EQUATION of 0s with another RIGHT SIDE",
            "row 0 = 1; plans() = 0; right(0, -1); plans() = 0; right(0, 0); plans() = 11");
        test(25, "none: EQUATIONS that gainsay each other",
            "works(2); row 1 1 = 3; row 2 2 = 7; plans() = 0; right(1, 6); plans() = 4");
        test(25, "one", "works(2); row 1 1 = 20; plans() = 1; plan 0 is 10 10");
        test(25, "one, where LOW is HIGH",
            "works(4); bound(0, 1, 1); bound(1, -2, -2); bound(2, 3, 3); bound(3, 10, 10); plans() = 1; plan 0 is 1 -2 3 10");
        test(25, "EQUATIONS and UNKNOWNS of before works() do not count",
            "works(4); row 1 1 1 1 = 40; plans() = 1; works(3); row 1 1 1 = 2; plans() = 6; works(2); row 1 1 = 3; plans() = 4",
            "works(1); row 1 = 3; plans() = 1; works(1); plans() = 11");
        test(25, "BOUNDS of before works() do not count",
            "works(4); bound(3, -10, 10); row 1 1 1 1 = 0; take(0) = 1; works(3); row 1 1 1 = 2; plans() = 6; plan 0 is 0 0 2",
            "plan 5 is 2 0 0; right(0, 30) = 2; plans() = 1; right(0, 31) = 30; plans() = 0; right(0, -1) = 31; plans() = 0",
            "works(2); row 1 1 = 1; plans() = 2; plan 0 is 0 1; plan 1 is 1 0; works(1); row 1 = 3; plans() = 1; plan 0 is 3");
        test(25, "the most",
            "works(4); bound(0, -10, 10); bound(1, -10, 10); bound(2, -10, 10); bound(3, -10, 10); plans() = 194481",
            "plan 0 is -10 -10 -10 -10; plan 194480 is 10 10 10 10; plan 20 is -10 -10 -10 10; plan 21 is -10 -10 -9 -10",
            "plan(194481, 0) = NONE");
        test(25, "the most under an EQUATION",
            "works(4); bound(0, -10, 10); bound(1, -10, 10); bound(2, -10, 10); bound(3, -10, 10); row 0 0 0 6 = 60",
            "plans() = 9261",
            "plan 0 is -10 -10 -10 10; plan 9260 is 10 10 10 10; right(0, -60); plan 9260 is 10 10 10 -10");
        test(25, "the most under an EQUATION of another UNKNOWN",
            "works(4); bound(0, -10, 10); bound(1, -10, 10); bound(2, -10, 10); bound(3, -10, 10); row 6 0 0 0 = -60",
            "plans() = 9261",
            "plan 0 is -10 -10 -10 -10; plan 9260 is -10 10 10 10");
    }

    private static void plan() {
        test(26, "the first and the last", TWO_OF_THREE, "plans() = 6; plan 0 is 0 0 2; plan 5 is 2 0 0; refused");
        test(26, "numbered by the first numbers that differ, the lesser first",
            "works(2); row 1 1; bound(0, -1, 2); bound(1, -2, 1); plans() = 4; plan 0 is -1 1; plan 1 is 0 0; plan 2 is 1 -1",
            "plan 3 is 2 -2");
        test(26, "LOW and HIGH belong to them", "bound(0, -3, 4); plans() = 8; plan 0 is -3; plan 7 is 4");
        test(26, "NONE: no such PLAN",
            TWO_OF_THREE, "plan(6, 0) = NONE; plan(-1, 0) = NONE; plan(MIN, 0) = NONE; plan(MAX, 0) = NONE; refused");
        test(26, "NONE: no such UNKNOWN",
            TWO_OF_THREE, "plan(0, 3) = NONE; plan(0, -1) = NONE; plan(0, MIN) = NONE; plan(0, MAX) = NONE; refused");
        test(26, "NONE: there are no PLANS", NO_PLANS, "plan(0, 0) = NONE; plan(-1, 0) = NONE; plan(0, 2) = NONE; refused");
    }

    private static void take() {
        test(27, "the first and the last",
            TWO_OF_THREE, "hand 9 9 9; take(0) = 1; hand is 0 0 2; take(5) = 1; hand is 2 0 0; refused");
        test(27, "the HAND may have been anything", "hand 10000; take(3) = 1; hand is 3; what() = 3");
        test(27, "-1 no such PLAN",
            TWO_OF_THREE, "hand 9 9 9; take(6) = -1; take(-1) = -1; take(MIN) = -1; take(MAX) = -1; hand is 9 9 9; refused 4");
        test(27, "-1 there are no PLANS", NO_PLANS, "hand 9 9; take(0) = -1; take(-1) = -1; hand is 9 9; refused 2");
        test(27, "the HAND stays a PLAN's numbers when PLANS change",
            TWO_OF_THREE, "take(4) = 1; right(0, 3) = 2; hand is 1 1 0; what() = 0");
    }

    private static void less() {
        test(28, "a PLAN less itself is all 0", TWO_OF_THREE, "take(4); less(4) = 1; hand is 0 0 0; refused");
        test(28, "a PLAN less another one is a STEP", TWO_OF_THREE, "take(0); less(5) = 1; hand is -2 0 2; what() = 1; refused");
        test(28, "the HAND need be neither STEP nor PLAN",
            TWO_OF_THREE, "hand 100 5 -7; what() = 0; less(1) = 1; hand is 100 4 -8; refused");
        test(28, "up to 10000", WIDE, "hand 9990; less(0) = 1; hand is 10000; refused");
        test(28, "down to -10000", WIDE, "hand -9990; less(20) = 1; hand is -10000; refused");
        test(28, "a HAND at its edge and a PLAN of 0",
            WIDE, "hand 10000; less(10) = 1; hand is 10000; hand -10000; less(10) = 1; hand is -10000; refused");
    }

    private static void lessRefused() {
        test(28, "-4 some number would be below -10000",
            WIDE, "hand -9991; less(20) = -4; hand is -9991; hand -10000; less(11) = -4; hand is -10000; refused 0 0 0 2");
        test(28, "-6 some number would be above 10000",
            WIDE, "hand 9991; less(0) = -6; hand is 9991; hand 10000; less(9) = -6; hand is 10000; refused 0 0 0 0 0 2");
        test(28, "-4 or -6 of the last UNKNOWN alone",
            "works(4); bound(3, -1, 1); hand 0 0 0 -10000; less(2) = -4; hand 0 0 0 10000; less(0) = -6; hand is 0 0 0 10000",
            "refused 0 0 0 1 0 1");
        test(28, "-4 is told before -6, though the one above comes first",
            "works(2); bound(0, -10, 10); bound(1, -10, 10); plan 20 is -10 10; hand 10000 -10000; less(20) = -4",
            "plan 420 is 10 -10; hand -10000 10000; less(420) = -4; hand is -10000 10000; refused 0 0 0 2");
        test(28, "-1 no such PLAN",
            TWO_OF_THREE, "hand 1 2 3; less(6) = -1; less(-1) = -1; less(MIN) = -1; less(MAX) = -1; hand is 1 2 3; refused 4");
        test(28, "-1 there are no PLANS", NO_PLANS, "hand 10000 -10000; less(0) = -1; hand is 10000 -10000; refused 1");
    }

    private static void find() {
        test(29, "the first and the last",
            TWO_OF_THREE, "hand 0 0 2; find() = 0; hand 2 0 0; find() = 5; hand 1 0 1; find() = 3; refused");
        test(29, "among the most",
            "works(4); bound(0, -10, 10); bound(1, -10, 10); bound(2, -10, 10); bound(3, -10, 10); hand 10 10 10 10",
            "find() = 194480",
            "hand -10 -10 -10 -10; find() = 0; hand 0 0 0 0; find() = 97240");
        test(29, "-5 out of BOUNDS", "hand 11; find() = -5; hand -1; find() = -5; hand 10; find() = 10; refused 0 0 0 0 2");
        test(29, "-5 an EQUATION is not met", TWO_OF_THREE, "hand 1 1 1; find() = -5; hand is 1 1 1; refused 0 0 0 0 1");
        test(29, "-5 a STEP alone", TWO_OF_THREE, "hand 1 -1 0; what() = 1; find() = -5; refused 0 0 0 0 1");
        test(29, "-5 there are no PLANS", NO_PLANS, "find() = -5; bound(0, 1, 0); find() = -5; refused 0 0 0 0 2");
    }

    private static void span() {
        test(30, "what 0 and what 1",
            "works(3); row 3 2 0 = 17; bound(2, -4, 6); span(0, 0) = 1; span(0, 1) = 5; span(1, 0) = 1; span(1, 1) = 7",
            "span(2, 0) = -4; span(2, 1) = 6; refused");
        test(30, "LOW and HIGH at their edges", WIDE, "span(0, 0) = -10; span(0, 1) = 10");
        test(30, "one PLAN", "row 2 = 14; span(0, 0) = 7; span(0, 1) = 7");
        test(30, "narrower than the BOUNDS, in the last UNKNOWN too",
            TWO_OF_THREE, "span(0, 1) = 2; span(2, 0) = 0; span(2, 1) = 2");
        test(30, "PLANS of before do not count",
            "works(2); row 1 -1; plans() = 11; bound(0, 0, 3); span(0, 1) = 3; span(1, 1) = 3; bound(0, 0, 10); plans() = 11",
            "bound(0, 7, 9); span(0, 0) = 7; span(1, 0) = 7");
        test(30, "NONE without PLANS",
            NO_PLANS, "span(0, 0) = NONE; span(0, 1) = NONE; bound(0, 1, 0); span(1, 0) = NONE; refused");
        test(30, "NONE without such an UNKNOWN",
            TWO_OF_THREE, "span(3, 0) = NONE; span(-1, 0) = NONE; span(3, 1) = NONE; span(MIN, 1) = NONE; span(MAX, 0) = NONE",
            "refused");
        test(30, "NONE without such a what",
            TWO_OF_THREE, "span(0, 2) = NONE; span(0, -1) = NONE; span(0, MIN) = NONE; span(0, MAX) = NONE; refused");
    }

    private static void extreme() {
        test(31, "the first of the least COST, of the greatest",
            TWO_OF_THREE, "price(1, 1, 1); extreme(0) = 0; extreme(1) = 2; price(1, -1, 0); extreme(0) = 2; extreme(1) = 0",
            "refused");
        test(31, "the first of those that cost the same",
            TWO_OF_THREE, "extreme(0) = 0; extreme(1) = 0; price(0, 1, 0); extreme(0) = 0; extreme(1) = 5; price(0, -1, 0)",
            "price(2, -1, 0); extreme(0) = 0; extreme(1) = 2");
        test(31, "the first of those that cost the same, where the last UNKNOWN is in no EQUATION",
            "works(2); row 1 0 = 4; price(1, -11, 1); extreme(0) = 5; extreme(1) = 0; bound(1, 1, 10); extreme(1) = 0",
            "extreme(0) = 4; bound(1, 1, 9); price(1, -10, 1); extreme(0) = 4; extreme(1) = 0");
        test(31, "PLANS of before do not count",
            "works(2); row 1 -1; price(0, 1, 0); plans() = 11; bound(0, 0, 3); extreme(1) = 3; bound(0, 0, 10); plans() = 11",
            "bound(0, 7, 9); extreme(0) = 0; price(0, -1, 0); extreme(0) = 2; extreme(1) = 0");
        test(31, "COSTS below 0",
            "bound(0, -3, -1); price(0, 1, 0); extreme(0) = 0; extreme(1) = 2; price(0, -1, 0); extreme(0) = 2; extreme(1) = 0");
        test(31, "the last PLAN", "price(0, 1, 0); extreme(1) = 10; price(0, -1, 0); extreme(0) = 10");
        test(31, "one PLAN", "row 1 = 4; price(0, 9, 9); extreme(0) = 0; extreme(1) = 0");
        test(31, "-1 without PLANS, and nothing is refused", NO_PLANS, "extreme(0) = -1; extreme(1) = -1; refused");
        test(31, "-2 another what, and nothing is refused",
            "extreme(2) = -2; extreme(-1) = -2; extreme(MIN) = -2; extreme(MAX) = -2; refused");
        test(31, "-1 is told before -2", NO_PLANS, "extreme(2) = -1; extreme(-1) = -1; refused");
    }

    private static void near() {
        test(32, "at the corners and between",
            TWO_OF_THREE, "near(0) = 2; near(1) = 4; near(2) = 2; near(3) = 4; near(4) = 4; near(5) = 2; refused");
        test(32, "a STEP once, not twice", "near(0) = 1; near(5) = 2; near(10) = 1; bound(0, 0, 1); near(0) = 1; near(1) = 1");
        test(32, "none: there are no STEPS", "row 2 = 6; plans() = 1; near(0) = 0; refused");
        test(32, "none: each STEP leads out of BOUNDS",
            "works(2); row 1 1 = 20; near(0) = 0; bound(0, 3, 3); bound(1, 3, 3); right(0, 6); near(0) = 0; refused");
        test(32, "up to LOW and HIGH",
            "works(2); row 1 -4; plans() = 3; near(0) = 1; near(1) = 2; near(2) = 1; bound(0, 0, 7); plans() = 2; near(0) = 1",
            "near(1) = 1");
        test(32, "STEPS of before do not count", "works(2); least() = 4; row 1 -1; near(0) = 1; near(5) = 2; near(10) = 1");
        test(32, "all STEPS", "works(4); plan 7320 is 5 5 5 5; near(7320) = 8; near(0) = 4; near(14640) = 4");
        test(32, "the HAND does not matter and stays", TWO_OF_THREE, "hand 9 9 9; near(1) = 4; hand is 9 9 9");
        test(32, "-1 no such PLAN", TWO_OF_THREE, "near(6) = -1; near(-1) = -1; near(MIN) = -1; near(MAX) = -1; refused 4");
        test(32, "-1 there are no PLANS", NO_PLANS, "near(0) = -1; refused 1");
    }

    private static void count() {
        test(33, "0 UNKNOWNS", "count(0) = 1; works(4); count(0) = 4; works(5); count(0) = 4");
        test(33, "1 EQUATIONS",
            "count(1) = 0; equation(); equation(); equation(); count(1) = 3; equation(); count(1) = 3; works(1); count(1) = 0");
        test(33, "2, 3, 4 LEAST STEPS of KINDS 1, 2, 3",
            "works(3); row 1 1 -2; count(2) = 1; count(3) = 1; count(4) = 6; put(0, 2, 2); count(2) = 2; count(3) = 0",
            "count(4) = 6");
        test(33, "2, 3, 4: there are none", "row 1; count(2) = 0; count(3) = 0; count(4) = 0");
        test(33, "5 elements of all TRAYS",
            "count(5) = 0; tray(0, 0, 20); count(5) = 20; tray(1, 3, 7); count(5) = 27; tray(2, 1, 0); count(5) = 27",
            "tray(3, 2, 1); count(5) = 28",
            "tray(0, 1, 0); count(5) = 8; tray(0, 1, 21) = -6; count(5) = 8");
        test(33, "NONE for another what, and nothing is refused",
            "count(-1) = NONE; count(7) = NONE; count(8) = NONE; count(9) = NONE; count(10) = NONE; count(18) = NONE",
            "count(-7) = NONE",
            "count(MIN) = NONE; count(MAX) = NONE; refused");
    }

    private static void countSplit() {
        test(33, "6 the sum of the AMOUNTS",
            "works(3); row 1 1 -2; hand -5 -3 -4; count(6) = 4; hand is -5 -3 -4; hand 1 1 1; count(6) = 1");
        test(33, "6 the greatest sum", "works(4); hand 10000 10000 10000 10000; count(6) = 40000");
        test(33, "6 is 0 if the HAND is no STEP, and nothing is refused",
            "works(3); row 1 1 -2; hand 1 1 2; count(6) = 0; refused");
        test(33, "6 is 0 if the HAND is all 0", "works(3); row 1 1 -2; count(6) = 0; refused");
        test(33, "6 is 0 if the HAND is a PLAN alone", "works(2); row 1 1 = 3; hand 1 2; count(6) = 0; refused");
        test(33, "6 is 0 if there are no STEPS", "row 1; hand 1; count(6) = 0; refused");
    }

    private static void countRefusals() {
        test(33, "11 REFUSALS -1", "back(99); refused 1; take(99); refused 2");
        test(33, "12 REFUSALS -2", "tray(0, 9, 0); refused 0 1; tray(0, 0, 1); tray(1, 1, 1); copy(0, 0, 1, 1); refused 0 2");
        test(33, "13 REFUSALS -3", "tray(0, 0, 1); cell(0, 1, 0); refused 0 0 1; copy(0, 0, 0, 2); refused 0 0 2");
        test(33, "14 REFUSALS -4", "works(0); refused 0 0 0 1; hand(0, -10001); refused 0 0 0 2");
        test(33, "15 REFUSALS -5", "split(0); refused 0 0 0 0 1; hand(0, 11); better(); best(); find(); refused 0 0 0 0 4");
        test(33, "16 REFUSALS -6", "works(5); refused 0 0 0 0 0 1; hand(0, 10001); refused 0 0 0 0 0 2");
        test(33, "17 REFUSALS -7", "cell(0, 0, 0); refused 0 0 0 0 0 0 1; copy(0, 0, 0, 0); refused 0 0 0 0 0 0 2");
        test(33, "a call is refused once, though more than one refusal fits",
            "put(9, 9, 9) = -1; bound(9, -11, 11) = -1; tray(9, 9, 21) = -1; refused 3; copy(0, -1, 1, -1) = -7",
            "refused 3 0 0 0 0 0 1");
        test(33, "calls that answer NONE, 0, -1 or -2 without a refusal",
            "works(2); row 2 4 = 5; step(9, 9) = NONE; kind(9) = 0; has(9) = NONE; plan(9, 9) = NONE; span(9, 9) = NONE",
            "extreme(0) = -1; extreme(9) = -1",
            "right(0, 6) = 5; extreme(9) = -2; count(99) = NONE; refused");
    }
}
