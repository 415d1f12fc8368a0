/** Promises 1 to 7: each sentence that names a boundary case, with an object of its own. */
public final class BoundariesOfWorksTest {
    private static final Script SCRIPT = new Script("BoundariesOfWorksTest");

    public static void main(String[] args) {
        aNewObject();
        works();
        worksPutsAllAsAtFirst();
        equation();
        put();
        right();
        bound();
        boundOrder();
        price();
        SCRIPT.end();
    }

    private static void test(int promise, String sentence, String... lines) {
        SCRIPT.test(promise, sentence, lines);
    }

    private static void aNewObject() {
        test(1, "one UNKNOWN",
            "count(0) = 1; has(0) = 0; has(1) = NONE; bound(0, 0, 10) = 1; bound(1, 0, 10) = -1");
        test(1, "no EQUATIONS",
            "count(1) = 0; put(0, 0, 0) = -1; right(0, 0) = -1; equation() = 0");
        test(1, "BOUNDS are 0 and 10 at first",
            "plans() = 11; span(0, 0) = 0; span(0, 1) = 10; plan 0 is 0; plan 10 is 10");
        test(1, "PRICE and BEND are 0 at first",
            "hand 10000; cost() = 0; extreme(0) = 0; extreme(1) = 0; better() = -5; hand 5; better() = NONE");
        test(1, "the HAND is 0 at first", "hand is 0; what() = 2; find() = 0");
        test(1, "TRAYS are MISSING at first",
            "count(5) = 0; cell(0, 0, 0) = -7; cell(1, 0, 0) = -7; cell(2, 0, 0) = -7; cell(3, 0, 0) = -7",
            "refused 0 0 0 0 0 0 4");
        test(1, "nothing was refused", "refused; count(6) = 0");
        test(1, "an object is used for 512 calls", repeat("works(0) = -4", 511) + "count(14) = 511");
    }

    private static void works() {
        test(2, "n is 1, the least", "works(1) = 1; count(0) = 1; plans() = 11; least() = 2; hand is 0");
        test(2, "n is 2", "works(2) = 1; count(0) = 2; plans() = 121; least() = 4; hand is 0 0");
        test(2, "n is 3", "works(3) = 1; count(0) = 3; plans() = 1331; least() = 6; hand is 0 0 0");
        test(2, "n is 4, the greatest", "works(4) = 1; count(0) = 4; plans() = 14641; least() = 8; hand is 0 0 0 0");
        test(2, "-4 n is too small", "works(0) = -4; works(-1) = -4; works(MIN) = -4; count(0) = 1; refused 0 0 0 3");
        test(2, "-6 n is too large", "works(5) = -6; works(6) = -6; works(MAX) = -6; count(0) = 1; refused 0 0 0 0 0 3");
        test(2, "a refused call changes nothing",
            "works(2); row 3 -2 = 7; bound(0, -4, 9); price(1, -5, 2); hand 6 -8; tray(1, 2, 5)",
            "works(0) = -4; works(5) = -6",
            "count(0) = 2; count(1) = 1; row 0 is 3 -2; right(0, 7) = 7; hand is 6 -8; cost() = 168; count(5) = 5",
            "plans() = 4; span(0, 0) = 3; span(0, 1) = 9; plan 0 is 3 1; plan 3 is 9 10; refused 0 0 0 1 0 1");
    }

    private static void worksPutsAllAsAtFirst() {
        test(2, "no EQUATIONS",
            "row 1; row 2; row 3; works(1) = 1; count(1) = 0; put(0, 0, 1) = -1; right(0, 0) = -1; equation() = 0");
        test(2, "COEFFICIENTS and RIGHT SIDES as at first",
            "works(2); row 6 -6 = 200; row 5 5 = -200; row 1 1 = 1; plans() = 0; least() = 0; works(2) = 1",
            "least() = 4; plans() = 121; equation() = 0; equation() = 1; equation() = 2",
            "row 0 is 0 0; row 1 is 0 0; row 2 is 0 0; right(0, 0) = 0; right(1, 0) = 0; right(2, 0) = 0",
            "least() = 4; plans() = 121");
        test(2, "COEFFICIENTS of more UNKNOWNS than before as at first",
            "works(4); row 1 2 3 4; works(2); row 5 6; works(4); equation() = 0; row 0 is 0 0 0 0");
        test(2, "BOUNDS as at first",
            "works(2); bound(0, -10, -5); bound(1, 3, 2); works(2) = 1",
            "span(0, 0) = 0; span(0, 1) = 10; span(1, 0) = 0; span(1, 1) = 10");
        test(2, "BOUNDS of more UNKNOWNS than before as at first",
            "works(4); bound(3, 2, 2); works(1); works(4); span(3, 0) = 0; span(3, 1) = 10; plans() = 14641");
        test(2, "PRICES and BENDS as at first",
            "works(2); price(0, 7, 3); price(1, -9, 9); works(2) = 1; hand 5 -5; cost() = 0");
        test(2, "PRICES and BENDS of more UNKNOWNS than before as at first",
            "works(4); price(3, 7, 3); works(1); works(4); hand 1 1 1 1; cost() = 0");
        test(2, "the HAND as at first", "works(3); hand 1 -2 3; works(3) = 1; hand is 0 0 0");
        test(2, "the HAND of more UNKNOWNS than before as at first",
            "works(4); hand 1 2 3 4; works(2) = 1; hand is 0 0; works(4) = 1; hand is 0 0 0 0");
        test(2, "TRAYS stay",
            "tray(0, 0, 3); cells 0 are 1 2 -3; tray(3, 3, 0); works(3) = 1; count(5) = 3; equation() = 0",
            "lay(0, 0, 0) = 1; row 0 is 1 2 -3; lay(0, 3, 0) = 1; row 0 is 0 0 0; lay(0, 1, 0) = -7");
        // The Terms name nothing that these are "at first": they tell how many there were.
        test(2, "how many REFUSALS there were stays",
            "works(0) = -4; works(5) = -6; put(0, 0, 0) = -1; works(2) = 1; refused 1 0 0 1 0 1");
    }

    private static void equation() {
        test(3, "its number, from 0 on; the third is the last",
            "equation() = 0; count(1) = 1; equation() = 1; count(1) = 2; equation() = 2; count(1) = 3; refused");
        test(3, "-6 there are 3",
            "works(2); row 1 2 = 3; row 4 5 = 6; row -1 -2 = -3; hand 1 1; equation() = -6; equation() = -6; count(1) = 3",
            "row 0 is 1 2; row 1 is 4 5; row 2 is -1 -2; right(0, 3) = 3; right(1, 6) = 6; right(2, -3) = -3",
            "hand is 1 1; put(3, 0, 0) = -1; refused 1 0 0 0 0 2");
        test(3, "behind works() from 0 on", "equation(); equation(); equation(); works(1); equation() = 0; count(1) = 1");
        test(3, "COEFFICIENTS and RIGHT SIDE are 0 at first: it binds nothing",
            "bound(0, -10, 10); hand(0, 3); equation() = 0; row 0 is 0; right(0, 0) = 0",
            "plans() = 21; least() = 2; what() = 3");
        test(3, "the others stay",
            "works(2); row 1 1 = 3; hand 1 2; equation() = 1; row 0 is 1 1; right(0, 3) = 3; what() = 2; plans() = 4");
    }

    private static void put() {
        test(4, "-6 and 6 are the edges; what it was",
            "equation(); put(0, 0, -6) = 0; put(0, 0, 6) = -6; put(0, 0, 0) = 6; put(0, 0, 0) = 0; refused");
        test(4, "what it was may look like a refusal, and is none",
            "equation(); put(0, 0, -1) = 0; put(0, 0, -4) = -1; put(0, 0, -6) = -4; put(0, 0, 1) = -6; refused");
        test(4, "-1 there are no EQUATIONS", "put(0, 0, 0) = -1; refused 1");
        test(4, "-1 no such EQUATION",
            "works(2); equation(); put(1, 0, 0) = -1; put(-1, 0, 0) = -1; put(3, 0, 0) = -1; put(MIN, 0, 0) = -1",
            "put(MAX, 0, 0) = -1; refused 5");
        test(4, "-1 no such UNKNOWN",
            "works(2); equation(); put(0, 2, 0) = -1; put(0, -1, 0) = -1; put(0, 4, 0) = -1; put(0, MIN, 0) = -1",
            "put(0, MAX, 0) = -1; refused 5");
        test(4, "the last EQUATION and the last UNKNOWN are there",
            "works(4); equation(); equation(); equation(); put(2, 3, 5) = 0; put(2, 3, 5) = 5; refused");
        test(4, "-4 too small", "equation(); put(0, 0, 3); put(0, 0, -7) = -4; put(0, 0, MIN) = -4; row 0 is 3; refused 0 0 0 2");
        test(4, "-6 too large",
            "equation(); put(0, 0, 3); put(0, 0, 7) = -6; put(0, 0, MAX) = -6; row 0 is 3; refused 0 0 0 0 0 2");
        test(4, "-1 is told before -4 and -6",
            "equation(); put(1, 0, -7) = -1; put(0, 1, -7) = -1; put(1, 0, 7) = -1; put(0, 1, 7) = -1; refused 4");
        test(4, "STEPS and PLANS are those of the new COEFFICIENT",
            "works(2); row 1 -1; least() = 2; step 0 is -1 -1; plans() = 11; put(0, 1, 1) = -1",
            "step 0 is -1 1; plans() = 1; put(0, 1, 0) = 1; step 0 is 0 -1; plans() = 11");
    }

    private static void right() {
        test(5, "-200 and 200 are the edges; what it was",
            "equation(); right(0, 200) = 0; right(0, -200) = 200; right(0, 0) = -200; refused");
        test(5, "what it was may be below 0, too, and is no refusal",
            "equation(); right(0, -1) = 0; right(0, -4) = -1; right(0, -6) = -4; right(0, -7) = -6; right(0, 1) = -7; refused");
        test(5, "200 and -200 can be met",
            "works(4); row 5 5 5 5 = 200; plans() = 1; plan 0 is 10 10 10 10; right(0, -200) = 200; plans() = 0",
            "bound(0, -10, 10); bound(1, -10, 10); bound(2, -10, 10); bound(3, -10, 10); plans() = 1; plan 0 is -10 -10 -10 -10");
        test(5, "-1 no such EQUATION",
            "right(0, 0) = -1; equation(); right(1, 0) = -1; right(-1, 0) = -1; right(MIN, 0) = -1; right(MAX, 0) = -1",
            "refused 5");
        test(5, "-4 too small", "row 1 = 3; right(0, -201) = -4; right(0, MIN) = -4; right(0, 3) = 3; refused 0 0 0 2");
        test(5, "-6 too large", "row 1 = 3; right(0, 201) = -6; right(0, MAX) = -6; right(0, 3) = 3; refused 0 0 0 0 0 2");
        test(5, "-1 is told before -4 and -6", "equation(); right(1, -201) = -1; right(1, 201) = -1; refused 2");
        test(5, "PLANS are those of the new RIGHT SIDE, STEPS stay",
            "works(2); row 1 1 = 3; plans() = 4; least() = 2; right(0, 20) = 3; plans() = 1; plan 0 is 10 10; least() = 2",
            "right(0, 21) = 20; plans() = 0; least() = 2; step 0 is -1 1");
    }

    private static void bound() {
        test(6, "-10 and 10 are the edges",
            "bound(0, -10, 10) = 1; plans() = 21; span(0, 0) = -10; span(0, 1) = 10; refused");
        test(6, "both at one edge",
            "bound(0, -10, -10) = 1; plans() = 1; plan 0 is -10; bound(0, 10, 10) = 1; plans() = 1; plan 0 is 10; refused");
        test(6, "LOW may be above HIGH", "bound(0, 1, 0) = 1; plans() = 0; bound(0, 10, -10) = 1; plans() = 0; refused");
        test(6, "LOW above HIGH of one UNKNOWN leaves no PLANS",
            "works(3); bound(0, 5, 4) = 1; plans() = 0; bound(0, 5, 5) = 1; plans() = 121",
            "bound(1, 5, 4) = 1; plans() = 0; bound(1, 5, 5) = 1; plans() = 11",
            "bound(2, 5, 4) = 1; plans() = 0; bound(2, 5, 5) = 1; plans() = 1; plan 0 is 5 5 5");
        test(6, "the HAND stays, though it is outside then",
            "hand(0, 10); what() = 3; bound(0, 0, 9) = 1; hand is 10; what() = 1");
        test(6, "-4 one below -10",
            "bound(0, 3, 5); bound(0, -11, 5) = -4; bound(0, 3, -11) = -4; bound(0, -11, -11) = -4; bound(0, MIN, 0) = -4",
            "bound(0, 0, MIN) = -4; span(0, 0) = 3; span(0, 1) = 5; refused 0 0 0 5");
        test(6, "-6 one above 10",
            "bound(0, 3, 5); bound(0, 11, 5) = -6; bound(0, 3, 11) = -6; bound(0, 11, 11) = -6; bound(0, MAX, 0) = -6",
            "bound(0, 0, MAX) = -6; span(0, 0) = 3; span(0, 1) = 5; refused 0 0 0 0 0 5");
    }

    private static void boundOrder() {
        test(6, "-4 is told before -6", "bound(0, 11, -11) = -4; bound(0, -11, 11) = -4; plans() = 11; refused 0 0 0 2");
        test(6, "-1 no such UNKNOWN",
            "works(2); bound(2, 0, 0) = -1; bound(-1, 0, 0) = -1; bound(4, 0, 0) = -1; bound(MIN, 0, 0) = -1",
            "bound(MAX, 0, 0) = -1",
            "plans() = 121; refused 5");
        test(6, "-1 is told before -4 and -6",
            "bound(1, -11, 0) = -1; bound(1, 0, 11) = -1; bound(1, -11, 11) = -1; refused 3");
    }

    private static void price() {
        test(7, "-99 and 99, 0 and 99 are the edges",
            "hand 10; price(0, -99, 0) = 1; cost() = -990; price(0, 99, 99) = 1; cost() = 10890",
            "price(0, -99, 99) = 1; cost() = 8910; price(0, 99, 0) = 1; cost() = 990; refused");
        test(7, "-4 PRICE below -99",
            "hand 2; price(0, 5, 3); price(0, -100, 0) = -4; price(0, MIN, 0) = -4; cost() = 22; refused 0 0 0 2");
        test(7, "-4 BEND below 0",
            "hand 2; price(0, 5, 3); price(0, 0, -1) = -4; price(0, 0, MIN) = -4; cost() = 22; refused 0 0 0 2");
        test(7, "-6 PRICE above 99",
            "hand 2; price(0, 5, 3); price(0, 100, 0) = -6; price(0, MAX, 0) = -6; cost() = 22; refused 0 0 0 0 0 2");
        test(7, "-6 BEND above 99",
            "hand 2; price(0, 5, 3); price(0, 0, 100) = -6; price(0, 0, MAX) = -6; cost() = 22; refused 0 0 0 0 0 2");
        test(7, "-4 is told before -6",
            "hand 2; price(0, 5, 3); price(0, -100, 100) = -4; price(0, 100, -1) = -4; cost() = 22; refused 0 0 0 2");
        test(7, "-1 no such UNKNOWN",
            "works(2); price(2, 0, 0) = -1; price(-1, 0, 0) = -1; price(4, 0, 0) = -1; price(MIN, 0, 0) = -1",
            "price(MAX, 0, 0) = -1",
            "refused 5");
        test(7, "-1 is told before -4 and -6",
            "price(1, -100, 0) = -1; price(1, 0, -1) = -1; price(1, 100, 0) = -1; price(1, 0, 100) = -1; refused 4");
        test(7, "the last UNKNOWN has its own",
            "works(4); hand 1 1 1 2; price(3, 7, 1) = 1; cost() = 18; price(0, 1, 0) = 1; cost() = 19; refused");
    }

    private static String repeat(String line, int times) {
        return (line + "; ").repeat(times);
    }
}
