/** Promises 8 to 11: each sentence that names a boundary case, with an object of its own. */
public final class BoundariesOfTraysTest {
    private static final Script SCRIPT = new Script("BoundariesOfTraysTest");
    private static final String TWO_ROWS =
        "works(4); row 0 0 0 0; tray(0, 1, 4); tray(1, 1, 3); cells 0 are 1 2 3 4; cells 1 are -1 -2 -3";
    private static final String TWO_ROWS_STAY = "lay(0, 0, 0) = 1; row 0 is 1 2 3 4; lay(0, 1, 0) = 1; row 0 is -1 -2 -3 0";
    private static final String ROW_AND_TRAY = "works(2); row 3 -3; tray(0, 2, 3)";

    public static void main(String[] args) {
        tray();
        cell();
        lowestBits();
        copy();
        copyBeyond();
        copyOrder();
        lay();
        layRefused();
        SCRIPT.end();
    }

    private static void test(int promise, String sentence, String... lines) {
        SCRIPT.test(promise, sentence, lines);
    }

    private static void tray() {
        test(8, "TRAYS 0 and 3 are the edges", "tray(0, 0, 1) = 1; tray(3, 0, 2) = 1; count(5) = 3; refused");
        test(8, "-1 no such TRAY",
            "tray(-1, 0, 1) = -1; tray(4, 0, 1) = -1; tray(MIN, 0, 1) = -1; tray(MAX, 0, 1) = -1; count(5) = 0; refused 4");
        test(8, "SORTS 0 to 3 are there", "tray(0, 0, 1) = 1; tray(0, 1, 1) = 1; tray(0, 2, 1) = 1; tray(0, 3, 1) = 1; refused");
        test(8, "-2 no such SORT",
            "tray(0, -1, 1) = -2; tray(0, 4, 1) = -2; tray(0, MIN, 1) = -2; tray(0, MAX, 1) = -2; count(5) = 0; refused 0 4",
            "cell(0, 0, 0) = -7");
        test(8, "n is 0: a row without elements, that is not MISSING",
            "tray(0, 0, 0) = 1; count(5) = 0; cell(0, 0, 0) = -3; equation(); lay(0, 0, 0) = 1; refused 0 0 1");
        test(8, "n is 20, the greatest", "tray(0, 0, 20) = 1; count(5) = 20; cell(0, 19, 1) = 1; cell(0, 20, 1) = -3");
        test(8, "all TRAYS are full", "tray(0, 0, 20); tray(1, 1, 20); tray(2, 2, 20); tray(3, 3, 20); count(5) = 80; refused");
        test(8, "-4 n below 0",
            "tray(0, 0, -1) = -4; tray(0, 0, MIN) = -4; count(5) = 0; cell(0, 0, 0) = -7; refused 0 0 0 2 0 0 1");
        test(8, "-6 n above 20",
            "tray(0, 0, 21) = -6; tray(0, 0, MAX) = -6; count(5) = 0; cell(0, 0, 0) = -7; refused 0 0 0 0 0 2 1");
        test(8, "-1 is told before -2, -4 and -6", "tray(4, 4, 0) = -1; tray(4, 0, -1) = -1; tray(4, 0, 21) = -1; refused 3");
        test(8, "-2 is told before -4 and -6", "tray(0, 4, -1) = -2; tray(0, -1, 21) = -2; refused 0 2");
        test(8, "all 0, where there was a row",
            "works(4); row 1 1 1 1; tray(0, 2, 4); cells 0 are 5 5 5 5; tray(0, 2, 4) = 1; lay(0, 0, 0) = 1; row 0 is 0 0 0 0");
        test(8, "all 0, where there was a longer row, and a shorter one between",
            "works(4); row 1 1 1 1; tray(0, 2, 4); cells 0 are 5 5 5 5; tray(0, 2, 1); tray(0, 2, 4) = 1; lay(0, 0, 0) = 1",
            "row 0 is 0 0 0 0; count(5) = 4");
        test(8, "a new row has its own SORT and size",
            "equation(); tray(0, 3, 20); tray(0, 0, 1) = 1; count(5) = 1; cell(0, 1, 0) = -3; cell(0, 0, 256) = 1",
            "lay(0, 0, 0) = 1; row 0 is 0");
        test(8, "a refused call leaves the row, its SORT and its size",
            "works(3); row 0 0 0; tray(0, 1, 3); cells 0 are 1 2 3; tray(0, 4, 1) = -2; tray(0, 0, -1) = -4; tray(0, 0, 21) = -6",
            "count(5) = 3; lay(0, 0, 0) = 1; row 0 is 1 2 3; cell(0, 0, 256) = 1; lay(0, 0, 0) = -6",
            "cell(0, 0, 65536) = 1; lay(0, 0, 0) = 1; row 0 is 0 2 3");
        test(8, "the other TRAYS stay",
            "works(2); row 0 0; tray(0, 0, 2); tray(1, 0, 2); cells 0 are 1 2; cells 1 are 3 4; tray(0, 0, 2)",
            "lay(0, 1, 0) = 1; row 0 is 3 4; lay(0, 0, 0) = 1; row 0 is 0 0");
    }

    private static void cell() {
        test(9, "the first and the last element",
            "equation(); tray(0, 2, 20); cell(0, 0, 1) = 1; cell(0, 19, 2) = 1; lay(0, 0, 0) = 1; row 0 is 1",
            "lay(0, 0, 19) = 1; row 0 is 2; lay(0, 0, 18) = 1; row 0 is 0; refused");
        test(9, "-3 an element that is not there",
            "equation(); tray(0, 2, 2); cells 0 are 5 6; cell(0, 2, 1) = -3; cell(0, -1, 1) = -3; cell(0, 19, 1) = -3",
            "cell(0, MIN, 1) = -3",
            "cell(0, MAX, 1) = -3; lay(0, 0, 0) = 1; row 0 is 5; lay(0, 0, 1) = 1; row 0 is 6; refused 0 0 5");
        test(9, "-3 a row without elements", "tray(0, 2, 0); cell(0, 0, 1) = -3; cell(0, -1, 1) = -3; refused 0 0 2");
        test(9, "-7 a TRAY without a row", "cell(0, 0, 1) = -7; cell(3, 0, 1) = -7; count(5) = 0; refused 0 0 0 0 0 0 2");
        test(9, "-1 no such TRAY",
            "cell(-1, 0, 1) = -1; cell(4, 0, 1) = -1; cell(MIN, 0, 1) = -1; cell(MAX, 0, 1) = -1; refused 4");
        test(9, "-1 is told before -3, -7 before -3",
            "cell(4, -1, 1) = -1; cell(0, -1, 1) = -7; cell(0, 20, 1) = -7; refused 1 0 0 0 0 0 2");
        test(9, "the other elements stay",
            "works(3); row 0 0 0; tray(0, 2, 3); cells 0 are 1 2 3; cell(0, 1, 5) = 1; lay(0, 0, 0) = 1; row 0 is 1 5 3");
    }

    private static void lowestBits() {
        test(9, "the lowest bits, as bytes have them",
            "equation(); tray(0, 0, 1)", laidRefused(127, -6), laidRefused(128, -4), laid(255, -1), laid(256, 0), laid(261, 5),
            laidRefused(-128, -4), laidRefused(-129, -6), laid(-250, 6), laid(-256, 0), laid(Long.MAX_VALUE, -1),
            laid(Long.MIN_VALUE, 0));
        test(9, "the lowest bits, as shorts have them",
            "equation(); tray(0, 1, 1)", laidRefused(256, -6), laidRefused(32767, -6), laidRefused(32768, -4), laid(65535, -1),
            laid(65536, 0), laidRefused(-32768, -4), laidRefused(-32769, -6), laid(-65530, 6), laid(Long.MAX_VALUE, -1),
            laid(Long.MIN_VALUE, 0));
        test(9, "the lowest bits, as ints have them",
            "equation(); tray(0, 2, 1)", laidRefused(65536, -6), laidRefused(2147483647L, -6), laidRefused(2147483648L, -4),
            laid(4294967295L, -1), laid(4294967296L, 0), laidRefused(-2147483648L, -4), laidRefused(-2147483649L, -6),
            laid(-4294967290L, 6), laid(Long.MAX_VALUE, -1), laid(Long.MIN_VALUE, 0));
        test(9, "all bits, as longs have them",
            "equation()",
            "tray(0, 3, 1)", laidRefused(4294967296L, -6), laidRefused(4294967297L, -6), laidRefused(-4294967296L, -4),
            laidRefused(Long.MAX_VALUE, -6), laidRefused(Long.MIN_VALUE, -4), laid(-6, -6), laid(6, 6));
    }

    private static String laid(long v, int coefficient) {
        return "put(0, 0, " + (coefficient == 3 ? 2 : 3) + "); cell(0, 0, " + v + ") = 1; lay(0, 0, 0) = 1; "
            + "row 0 is " + coefficient;
    }

    private static String laidRefused(long v, int refusal) {
        return "put(0, 0, 3); cell(0, 0, " + v + ") = 1; lay(0, 0, 0) = " + refusal + "; row 0 is 3";
    }

    private static void copy() {
        test(10, "n of them from i on, the others stay",
            TWO_ROWS, "copy(0, 1, 1, 2) = 1; lay(0, 0, 0) = 1; row 0 is 1 -1 -2 4; lay(0, 1, 0) = 1; row 0 is -1 -2 -3 0",
            "refused");
        test(10, "n is 0: nothing changes",
            TWO_ROWS, "copy(0, 0, 1, 0) = 1; copy(1, 2, 0, 0) = 1; lay(0, 0, 0) = 1; row 0 is 1 2 3 4; lay(0, 1, 0) = 1",
            "row 0 is -1 -2 -3 0; refused");
        test(10, "n is 0 at the row's end", TWO_ROWS, "copy(0, 4, 1, 0) = 1; lay(0, 0, 0) = 1; row 0 is 1 2 3 4; refused");
        test(10, "all of d, up to the last element of t",
            TWO_ROWS, "copy(0, 1, 1, 3) = 1; lay(0, 0, 0) = 1; row 0 is 1 -1 -2 -3; refused");
        test(10, "one element, the last one of t",
            TWO_ROWS, "copy(0, 3, 1, 1) = 1; lay(0, 0, 0) = 1; row 0 is 1 2 3 -1; refused");
        test(10, "all of t", TWO_ROWS, "copy(1, 0, 0, 3) = 1; lay(0, 1, 0) = 1; row 0 is 1 2 3 0; refused");
        test(10, "as they were: from a TRAY to itself, one farther",
            TWO_ROWS, "copy(0, 1, 0, 3) = 1; lay(0, 0, 0) = 1; row 0 is 1 1 2 3; refused");
        test(10, "as they were: from a TRAY to itself, two farther",
            TWO_ROWS, "copy(0, 2, 0, 2) = 1; lay(0, 0, 0) = 1; row 0 is 1 2 1 2; refused");
        test(10, "as they were: from a TRAY to itself, at the same place",
            TWO_ROWS, "copy(0, 0, 0, 4) = 1; lay(0, 0, 0) = 1; row 0 is 1 2 3 4; refused");
        test(10, "as they were: t does not follow what d becomes later",
            TWO_ROWS, "copy(0, 0, 1, 3) = 1; cell(1, 0, 6) = 1; lay(0, 0, 0) = 1; row 0 is -1 -2 -3 4");
        test(10, "rows of 20 elements",
            "equation(); tray(0, 3, 20); tray(1, 3, 20); cell(0, 19, 5); copy(1, 0, 0, 20) = 1; lay(0, 1, 19) = 1; row 0 is 5",
            "refused");
        test(10, "rows without elements", "tray(0, 2, 0); tray(1, 2, 0); copy(0, 0, 1, 0) = 1; copy(0, 0, 0, 0) = 1; refused");
        test(10, "longs keep all their bits",
            "equation(); tray(0, 3, 1); tray(1, 3, 1); cell(0, 0, 4294967297); copy(1, 0, 0, 1) = 1; lay(0, 1, 0) = -6");
    }

    private static void copyBeyond() {
        test(10, "-3 i is below 0", TWO_ROWS, "copy(0, -1, 1, 1) = -3; copy(0, MIN, 1, 1) = -3", TWO_ROWS_STAY, "refused 0 0 2");
        test(10, "-3 i is behind the last element",
            TWO_ROWS, "copy(0, 4, 1, 1) = -3; copy(0, MAX, 1, 1) = -3", TWO_ROWS_STAY, "refused 0 0 2");
        test(10, "-3 t has too few elements from i on",
            TWO_ROWS, "copy(0, 2, 1, 3) = -3; copy(1, 0, 0, 4) = -3; copy(1, 1, 0, 3) = -3", TWO_ROWS_STAY, "refused 0 0 3");
        test(10, "-3 d has too few elements",
            TWO_ROWS, "copy(0, 0, 1, 4) = -3; copy(0, 0, 1, MAX) = -3", TWO_ROWS_STAY, "refused 0 0 2");
        test(10, "-3 i and n together wrap around",
            TWO_ROWS, "copy(0, MAX, 1, MAX) = -3; copy(0, MAX, 1, 2) = -3; copy(0, MIN, 1, MAX) = -3; copy(0, MAX, 1, 3) = -3",
            TWO_ROWS_STAY, "refused 0 0 4");
        test(10, "-3 from a TRAY to itself, beyond its end",
            TWO_ROWS, "copy(0, 1, 0, 4) = -3; copy(0, 0, 0, 5) = -3", TWO_ROWS_STAY, "refused 0 0 2");
        test(10, "-3 rows without elements",
            "tray(0, 2, 0); tray(1, 2, 1); copy(0, 0, 1, 1) = -3; copy(1, 0, 0, 1) = -3; refused 0 0 2");
        // "a place that is not there" is BEYOND too, though no element is asked for.
        test(10, "-3 n is 0, and i is no place of the row",
            TWO_ROWS, "copy(0, 5, 1, 0) = -3; copy(0, -1, 1, 0) = -3; copy(0, MIN, 1, 0) = -3; copy(0, MAX, 1, 0) = -3",
            "refused 0 0 4");
    }

    private static void copyOrder() {
        test(10, "-1 no such TRAY, one or the other",
            TWO_ROWS, "copy(4, 0, 0, 1) = -1; copy(-1, 0, 0, 1) = -1; copy(0, 0, 4, 1) = -1; copy(0, 0, -1, 1) = -1",
            "copy(MIN, 0, 0, 1) = -1; copy(0, 0, MAX, 1) = -1; copy(4, 0, 4, 1) = -1; refused 7");
        test(10, "-7 one of both is MISSING, or both",
            TWO_ROWS, "copy(0, 0, 2, 1) = -7; copy(2, 0, 0, 1) = -7; copy(2, 0, 3, 1) = -7; copy(2, 0, 2, 1) = -7", TWO_ROWS_STAY,
            "refused 0 0 0 0 0 0 4");
        test(10, "-2 they are of two SORTS",
            TWO_ROWS, "tray(2, 0, 4); tray(3, 2, 4); copy(0, 0, 2, 1) = -2; copy(2, 0, 0, 1) = -2; copy(0, 0, 3, 1) = -2",
            "copy(3, 0, 2, 1) = -2",
            TWO_ROWS_STAY, "refused 0 4");
        test(10, "-2 of two SORTS, though n is 0 or a row has no elements",
            "tray(0, 0, 0); tray(1, 3, 0); tray(2, 0, 1); copy(0, 0, 1, 0) = -2; copy(2, 0, 1, 0) = -2; refused 0 2");
        test(10, "-4 n below 0", TWO_ROWS, "copy(0, 0, 1, -1) = -4; copy(0, 0, 0, MIN) = -4", TWO_ROWS_STAY, "refused 0 0 0 2");
        test(10, "-1 is told before -7, -2, -4 and -3",
            "copy(4, 0, 0, 1) = -1; copy(0, 0, 4, 1) = -1; tray(0, 0, 1); copy(0, 0, 4, -1) = -1; copy(0, 9, 4, 1) = -1",
            "refused 4");
        test(10, "-7 is told before -2, -4 and -3",
            "tray(0, 1, 2); copy(0, 0, 1, 1) = -7; copy(1, 0, 0, -1) = -7; copy(0, 9, 1, 1) = -7; copy(1, -1, 0, 0) = -7",
            "refused 0 0 0 0 0 0 4");
        test(10, "-2 is told before -4 and -3",
            "tray(0, 1, 2); tray(1, 2, 2); copy(0, 0, 1, -1) = -2; copy(0, 9, 1, 1) = -2; copy(0, 0, 1, 9) = -2; refused 0 3");
        test(10, "-4 is told before -3",
            "tray(0, 1, 2); tray(1, 1, 2); copy(0, -1, 1, -1) = -4; copy(0, 9, 1, MIN) = -4; refused 0 0 0 2");
    }

    private static void lay() {
        test(11, "from place 0 on",
            "works(2); row 3 3 = 9; tray(0, 2, 3); cells 0 are 1 -2 4; lay(0, 0, 0) = 1; row 0 is 1 -2; right(0, 9) = 9",
            "refused");
        test(11, "up to the row's end",
            "works(2); row 3 3; tray(0, 2, 3); cells 0 are 1 -2 4; lay(0, 0, 1) = 1; row 0 is -2 4; refused");
        test(11, "0 behind the row's end",
            "works(2); row 3 3; tray(0, 2, 3); cells 0 are 1 -2 4; lay(0, 0, 2) = 1; row 0 is 4 0; refused");
        test(11, "the place is how many elements: all 0",
            "works(2); row 3 3; tray(0, 2, 3); cells 0 are 1 -2 4; lay(0, 0, 3) = 1; row 0 is 0 0; refused");
        test(11, "a row without elements: all 0",
            "works(4); row 1 2 3 4; tray(0, 0, 0); lay(0, 0, 0) = 1; row 0 is 0 0 0 0; refused");
        test(11, "a row of 20, at its last place and behind it",
            "works(4); row 1 2 3 4; tray(0, 0, 20); cell(0, 19, 5); lay(0, 0, 16) = 1; row 0 is 0 0 0 5; lay(0, 0, 19) = 1",
            "row 0 is 5 0 0 0",
            "lay(0, 0, 20) = 1; row 0 is 0 0 0 0; refused");
        test(11, "0 behind the row's end, though there was a longer row",
            "works(3); row 0 0 0; tray(0, 0, 3); cells 0 are 1 2 3; tray(0, 0, 1); cell(0, 0, 4); lay(0, 0, 0) = 1",
            "row 0 is 4 0 0");
        test(11, "-6 and 6 are the edges",
            "works(2); row 0 0; tray(0, 3, 2); cells 0 are -6 6; lay(0, 0, 0) = 1; row 0 is -6 6; refused");
        test(11, "elements behind the last UNKNOWN's do not matter",
            "works(2); row 0 0; tray(0, 1, 4); cells 0 are 1 2 -7 7; lay(0, 0, 0) = 1; row 0 is 1 2; refused");
        test(11, "the first element behind the last UNKNOWN's does not matter, below or above",
            "works(2); row 0 0; tray(0, 1, 3); cells 0 are 1 2 -7; lay(0, 0, 0) = 1; row 0 is 1 2; cells 0 are 3 4 7",
            "lay(0, 0, 0) = 1; row 0 is 3 4; refused");
        test(11, "elements before the place do not matter",
            "works(2); row 0 0; tray(0, 1, 4); cells 0 are -7 7 1 2; lay(0, 0, 2) = 1; row 0 is 1 2; refused");
        test(11, "the other EQUATIONS stay",
            "row 1; row 2; row 3; tray(0, 1, 1); cell(0, 0, 5); lay(2, 0, 0) = 1; row 0 is 1; row 1 is 2; row 2 is 5",
            "lay(0, 0, 0) = 1; row 0 is 5");
        test(11, "the EQUATION does not follow what the row becomes later",
            "equation(); tray(0, 1, 1); cell(0, 0, 5); lay(0, 0, 0) = 1; cell(0, 0, 2); row 0 is 5; tray(0, 1, 1); row 0 is 5");
        test(11, "STEPS and PLANS are those of the new COEFFICIENTS",
            "works(2); row 1 -1; least() = 2; plans() = 11; tray(0, 0, 2); cells 0 are 1 2; lay(0, 0, 0) = 1; step 0 is -2 1",
            "plans() = 1",
            "lay(0, 0, 2) = 1; least() = 4; plans() = 121");
    }

    private static void layRefused() {
        test(11, "-1 no such TRAY",
            ROW_AND_TRAY, "lay(0, -1, 0) = -1; lay(0, 4, 0) = -1; lay(0, MIN, 0) = -1; lay(0, MAX, 0) = -1; row 0 is 3 -3",
            "refused 4");
        test(11, "-1 no such EQUATION",
            ROW_AND_TRAY, "lay(-1, 0, 0) = -1; lay(1, 0, 0) = -1; lay(MIN, 0, 0) = -1; lay(MAX, 0, 0) = -1; works(2)",
            "lay(0, 0, 0) = -1; refused 5");
        test(11, "-7 a TRAY without a row",
            ROW_AND_TRAY, "lay(0, 1, 0) = -7; lay(0, 3, 0) = -7; row 0 is 3 -3; refused 0 0 0 0 0 0 2");
        test(11, "-3 the place is not 0 .. how many elements",
            ROW_AND_TRAY, "lay(0, 0, -1) = -3; lay(0, 0, 4) = -3; lay(0, 0, MIN) = -3; lay(0, 0, MAX) = -3; row 0 is 3 -3",
            "refused 0 0 4");
        test(11, "-3 a row without elements has place 0 alone",
            "works(1); equation(); tray(0, 0, 0); lay(0, 0, 1) = -3; lay(0, 0, -1) = -3; refused 0 0 2");
        test(11, "-4 a COEFFICIENT would be below -6, the first or the last",
            ROW_AND_TRAY, "cells 0 are -7 0 -7; lay(0, 0, 0) = -4; lay(0, 0, 1) = -4; row 0 is 3 -3; refused 0 0 0 2");
        test(11, "-6 a COEFFICIENT would be above 6, the first or the last",
            ROW_AND_TRAY, "cells 0 are 7 0 7; lay(0, 0, 0) = -6; lay(0, 0, 1) = -6; row 0 is 3 -3; refused 0 0 0 0 0 2");
        test(11, "-4 is told before -6, though the one above comes first",
            ROW_AND_TRAY, "cells 0 are 7 -7 7; lay(0, 0, 0) = -4; lay(0, 0, 1) = -4; row 0 is 3 -3; refused 0 0 0 2");
        test(11, "-1 is told before -7, -3, -4 and -6",
            "lay(0, 0, 0) = -1; equation(); lay(0, 4, -1) = -1; lay(1, 0, 9) = -1; tray(0, 0, 1); cell(0, 0, 7)",
            "lay(1, 0, 0) = -1; refused 4");
        test(11, "-7 is told before -3", "equation(); lay(0, 0, -1) = -7; lay(0, 0, 21) = -7; refused 0 0 0 0 0 0 2");
        test(11, "-3 is told before -4 and -6",
            ROW_AND_TRAY, "cells 0 are -7 7 7; lay(0, 0, -1) = -3; lay(0, 0, 4) = -3; refused 0 0 2");
    }
}
