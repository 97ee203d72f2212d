/** The edges of VALUES in the document's Terms: one method for each sentence. */
final class ValuesEdgesTest {
    private static final Checks CHECKS = new Checks("ValuesEdgesTest");
    private static final long NULL = Checks.NULL_ANSWER;
    private static final long LEAST = Long.MIN_VALUE, GREATEST = Long.MAX_VALUE;

    /** Texts of the least and the greatest value: of 2^62 = (2^31 - 1)^2 + 2 * (2^31 - 1) + 1. */
    private static final String HALF = "(2147483647 * 2147483647 + 2 * 2147483647 + 1)";
    private static final String LEAST_TEXT = "(-" + HALF + " * 2)", GREATEST_TEXT = "(" + HALF + " - 1 + " + HALF + ")";

    public static void main(String[] args) {
        sixtyFourBits();
        sumsAndProductsWrap();
        minusAndAbsWrap();
        quotientsWrap();
        sumsOfRowsWrap();
        whatIsMadeOfNull();
        divisionByZero();
        roundedTowardZero();
        remainders();
        testsWithNull();
        nullTests();
        notAndOr();
        testsAreNeverNull();
        orderOfOperations();
        byRisingXThenYThenZ();
        coordinates();
        placesOfTheBox();
        thoseThatCount();
        rowsByAxis();
        count();
        ofThoseThatAreNotNull();
        ofNone();
        firstOfThose();
        rowsOfWhichNoneCounts();
        CHECKS.close();
    }

    /** What an EXPR is in one cell, which is NULL in n and 7 in a. */
    private static void is(String expr, long want) {
        ArrayVault vault = Scene.one();
        Checks.make(vault, "n", 1, 1, 1);
        vault.set(0, 0, 0, 0, 7);
        CHECKS.rows(vault, "min(" + expr + "), max(" + expr + ") of a", Checks.row(0, want, want));
        CHECKS.tells(vault, "first(" + expr + ") of a", want);
        CHECKS.tells(vault, "sum(" + expr + ") of a", want == NULL ? 0 : want);
    }

    /** Whether a TEST is true there. */
    private static void holds(boolean want, String... tests) {
        ArrayVault vault = Scene.one();
        Checks.make(vault, "n", 1, 1, 1);
        vault.set(0, 0, 0, 0, 7);
        for (String test : tests) {
            CHECKS.tells(vault, "count of a where " + test, want ? 1 : 0);
        }
    }

    /** "numbers of 64 bits with a sign" */
    private static void sixtyFourBits() {
        is(LEAST_TEXT, LEAST);
        is(GREATEST_TEXT, GREATEST);
        is(HALF + " - 1", (1L << 62) - 1);
        is("2147483647 + 1", 2147483648L);
        is("-2147483647 - 2", -2147483649L);
        is("65536 * 65536", 4294967296L);
        holds(true, "1 * " + LEAST_TEXT + " < -" + HALF, "1 * " + GREATEST_TEXT + " > " + HALF);
    }

    /** "which wrap": +, - and * */
    private static void sumsAndProductsWrap() {
        is(GREATEST_TEXT + " + 1", LEAST);
        is(LEAST_TEXT + " - 1", GREATEST);
        is(GREATEST_TEXT + " + " + GREATEST_TEXT, -2);
        is(LEAST_TEXT + " + " + LEAST_TEXT, 0);
        is(GREATEST_TEXT + " * 2", -2);
        is(LEAST_TEXT + " * 2", 0);
        is(LEAST_TEXT + " * -1", LEAST);
        is("2147483647 * 2147483647 * 2147483647", 2147483647L * 2147483647L * 2147483647L);
        is(GREATEST_TEXT + " * " + GREATEST_TEXT, 1);
    }

    /** "which wrap": - and abs of the least */
    private static void minusAndAbsWrap() {
        is("-" + LEAST_TEXT, LEAST);
        is("abs" + LEAST_TEXT, LEAST);
        is("-" + GREATEST_TEXT, -GREATEST);
        is("abs(-" + GREATEST_TEXT + ")", GREATEST);
        is("abs(-1)", 1);
        is("abs(0)", 0);
        is("abs(1)", 1);
        is("-0", 0);
    }

    /** "which wrap": the least by -1 */
    private static void quotientsWrap() {
        is(LEAST_TEXT + " / -1", LEAST);
        is(LEAST_TEXT + " % -1", 0);
        is(LEAST_TEXT + " / 1", LEAST);
        is(GREATEST_TEXT + " / -1", -GREATEST);
        is(LEAST_TEXT + " / " + GREATEST_TEXT, -1);
        is(LEAST_TEXT + " % " + GREATEST_TEXT, -1);
        is(GREATEST_TEXT + " % " + LEAST_TEXT, GREATEST);
    }

    /** A TELL's sum is a value, too. */
    private static void sumsOfRowsWrap() {
        ArrayVault vault = new ArrayVault();
        Checks.make(vault, "a", 2, 2, 1);
        CHECKS.tells(vault, "sum" + GREATEST_TEXT + " of a", -4);
        CHECKS.tells(vault, "sum" + LEAST_TEXT + " of a", 0);
        CHECKS.rows(vault, "sum" + GREATEST_TEXT + ", max" + GREATEST_TEXT + " of a by x", Checks.row(0, -2, GREATEST),
            Checks.row(1, -2, GREATEST));
        vault.fill(0, 0, Checks.at(1, 1, 0), Integer.MAX_VALUE, 0, 0, 0);
        CHECKS.tells(vault, "sum(it) of a", 4L * Integer.MAX_VALUE);
        vault.fill(0, 0, Checks.at(1, 1, 0), Integer.MIN_VALUE, 0, 0, 0);
        CHECKS.rows(vault, "sum(it), max(-it), max(abs(it)) of a",
            Checks.row(0, 4L * Integer.MIN_VALUE, 2147483648L, 2147483648L));
    }

    /** "What is made of NULL is NULL" */
    private static void whatIsMadeOfNull() {
        for (String expr : new String[] {"n", "-n", "abs(n)", "(n)", "n + 1", "1 + n", "n - 1", "1 - n", "n * 0", "0 * n",
            "n / 1", "0 / n", "n % 1", "0 % n", "n + n", "n - n", "n / n", "n / 0", "1 + 2 * (3 - abs(-n))"}) {
            is(expr, NULL);
        }
        is("it + 0 * it", 7);
    }

    /** "are NULL if y is 0" */
    private static void divisionByZero() {
        is("1 / 0", NULL);
        is("1 % 0", NULL);
        is("0 / 0", NULL);
        is("0 % 0", NULL);
        is("7 / (it - 7)", NULL);
        is("7 % (7 - it)", NULL);
        is(LEAST_TEXT + " / (" + LEAST_TEXT + " * 2)", NULL);
        is("1 + 1 / 0", NULL);
        is("0 * (1 / 0)", NULL);
        is("0 / 1", 0);
        is("0 % 1", 0);
        is("1 / -1", -1);
        is("1 % -1", 0);
        holds(false, "1 / 0 = 1 / 0", "1 % 0 = 0");
        holds(true, "null(1 / 0)", "null(1 % 0)", "not null(0 / 1)", "not null(0 % 1)");
    }

    /** "x / y rounded toward 0" */
    private static void roundedTowardZero() {
        is("7 / 2", 3);
        is("-7 / 2", -3);
        is("7 / -2", -3);
        is("-7 / -2", 3);
        is("1 / 2", 0);
        is("-1 / 2", 0);
        is("6 / 3", 2);
        is("-6 / 3", -2);
    }

    /** "x % y = x - y (x / y)" */
    private static void remainders() {
        is("7 % 2", 1);
        is("-7 % 2", -1);
        is("7 % -2", 1);
        is("-7 % -2", -1);
        is("6 % 3", 0);
        is("1 % 5", 1);
        is("-1 % 5", -1);
        for (int x = -5; x <= 5; x++) {
            for (int y : new int[] {-3, -1, 1, 2}) {
                String a = x < 0 ? "-" + -x : "" + x, b = y < 0 ? "-" + -y : "" + y;
                is(a + " % " + b + " - (" + a + " - " + b + " * (" + a + " / " + b + "))", 0);
            }
        }
    }

    /** "A TEST of two values is false if one is NULL" */
    private static void testsWithNull() {
        for (String sign : new String[] {"=", "!=", "<", "<=", ">", ">="}) {
            holds(false, "n " + sign + " 1", "1 " + sign + " n", "n " + sign + " n", "n " + sign + " 0", "0 " + sign + " n");
            holds(true, "not n " + sign + " 1", "not 1 " + sign + " n", "not n " + sign + " n");
        }
        holds(true, "1 = 1", "1 != 2", "1 < 2", "1 <= 1", "1 <= 2", "2 > 1", "1 >= 1", "2 >= 1", "-1 < 0", "0 > -1", "it = 7",
            "a = it");
        holds(false, "1 = 2", "1 != 1", "1 < 1", "2 < 1", "2 <= 1", "1 > 1", "1 > 2", "1 >= 2", "0 < -1", "it != 7");
        holds(true, "0 > 1 * " + LEAST_TEXT, "0 < 1 * " + GREATEST_TEXT, "1 * " + LEAST_TEXT + " < " + GREATEST_TEXT,
            "65536 * 65536 > 0");
    }

    /** "null ( EXPR ) is whether it is" */
    private static void nullTests() {
        holds(true, "null(n)", "null(n + it)", "null(1 / 0)", "not null(it)", "not null(0)", "not null(-1)");
        holds(false, "null(it)", "null(0)", "null(x)", "not null(n)", "null(it * 0)", "not null(1 % 0)");
    }

    /** "not, and, or as they are" */
    private static void notAndOr() {
        String t = "1 = 1", f = "1 = 2";
        holds(true, t + " and " + t, t + " or " + t, t + " or " + f, f + " or " + t, "not " + f, "not not " + t);
        holds(false, t + " and " + f, f + " and " + t, f + " and " + f, f + " or " + f, "not " + t, "not not " + f);
        holds(true, t + " or " + t + " and " + f, f + " and " + f + " or " + t, "not " + f + " and " + t, "not " + f + " or " + f,
            "not (" + t + " and " + f + ")", "(" + t + " or " + f + ") and " + t, "not " + t + " or " + t);
        holds(false, "(" + t + " or " + t + ") and " + f, f + " and (" + f + " or " + t + ")", "not " + t + " and " + f,
            "not (" + f + " or " + t + ")", "not " + f + " and " + f);
    }

    /** A TEST is never NULL itself, so what is false for a NULL goes on as any other. */
    private static void testsAreNeverNull() {
        String t = "1 = 1", f = "1 = 2";
        holds(true, "n = 1 or " + t, t + " or n = 1", "null(n) and " + t, t + " and null(n)", "null(n) or " + f,
            f + " or null(n)", "not n = 1 and " + t, t + " and not n = 1", "not (n = 1 and " + t + ")",
            "not (n = 1 or " + f + ")", "null(n) and null(n)", "n = 1 or null(n)", "null(n) or n = 1",
            "not (n = 1) and not (1 < n)");
        holds(false, "n = 1 or " + f, f + " or n = 1", "n = 1 and " + t, t + " and n = 1", "not null(n) and " + t,
            "not null(n) or " + f, "n = 1 or n != 1", "not (n = 1 or " + t + ")", "not (null(n) and " + t + ")");
    }

    private static void orderOfOperations() {
        is("2 + 3 * 4", 14);
        is("2 * 3 + 4", 10);
        is("20 - 5 - 3", 12);
        is("100 / 10 / 5", 2);
        is("100 % 7 * 3", 6);
        is("3 * 100 % 7", 6);
        is("20 - (5 - 3)", 18);
        is("-2 + 3", 1);
        is("-(2 + 3)", -5);
        is("-2 * -3", 6);
        is("7 - -3", 10);
        is("-it % 4", -3);
    }

    /** "by rising x, then y, then z" */
    private static void byRisingXThenYThenZ() {
        ArrayVault vault = new ArrayVault();
        Checks.make(vault, "a", 2, 2, 2);
        for (int i = 0; i < 8; i++) {
            CHECKS.tells(vault, "first(100 * x + 10 * y + z) of a where 4 * x + 2 * y + z >= " + i,
                i / 4 * 100 + i / 2 % 2 * 10 + i % 2);
        }
        CHECKS.tells(vault, "first(x * 10 + y) of a where x + y = 1", 1);
        CHECKS.tells(vault, "first(y * 10 + z) of a where y + z = 1", 1);
        CHECKS.tells(vault, "first(x * 10 + z) of a where x + z = 1", 1);
        CHECKS.rows(vault, "first(x * 10 + y) of a where x + y = 1 by z", Checks.row(0, 1), Checks.row(1, 1));
    }

    /** "x, y, z: the place; it: the cell of the query's array" */
    private static void coordinates() {
        ArrayVault vault = new ArrayVault();
        Checks.make(vault, "a", 2, 3, 4);
        vault.fill(0, 0, Checks.at(1, 2, 3), 0, 100, 10, 1);
        CHECKS.tells(vault, "count of a where it = 100 * x + 10 * y + z", 24);
        CHECKS.rows(vault, "max(x), max(y), max(z), max(it) of a", Checks.row(0, 1, 2, 3, 123));
        CHECKS.rows(vault, "min(x), min(y), min(z), min(it) of a [1, 1, 2:3]", Checks.row(0, 1, 1, 2, 112));
    }

    /** "over the places of the box (without one of the whole array)" */
    private static void placesOfTheBox() {
        ArrayVault vault = Scene.ready();
        CHECKS.tells(vault, "count of a", 12);
        CHECKS.tells(vault, "count of a [*, *, *]", 12);
        CHECKS.tells(vault, "count of a [1, *, *]", 6);
        CHECKS.tells(vault, "count of a [*, 1, *]", 4);
        CHECKS.tells(vault, "count of a [*, *, 1]", 6);
        CHECKS.tells(vault, "count of a [*, 1:2, *]", 8);
        CHECKS.rows(vault, "count, sum(it) of b [1, 0:1, 0]", Checks.row(0, 2, 212));
        CHECKS.rows(vault, "count, sum(it) of b [0:0, 2:2, 1:1]", Checks.row(0, 1, 22));
        CHECKS.tells(vault, "count of a", 12);
    }

    /** "those for which its test, if it has one, is true COUNT" */
    private static void thoseThatCount() {
        ArrayVault vault = Scene.ready();
        CHECKS.rows(vault, "count, sum(it), min(it), max(it) of b where z = 1", Checks.row(0, 6, 372, 2, 122));
        CHECKS.rows(vault, "count, first(it), max(it) of b where z = 1 and y > 0", Checks.row(0, 4, 12, 122));
        CHECKS.tells(vault, "count of b where 1 = 1", 12);
        CHECKS.tells(vault, "count of b where 1 = 2", 0);
        CHECKS.tells(vault, "count of b [1, *, *] where z = 1", 3);
        CHECKS.tells(vault, "count of b", 12);
    }

    /** "with by one for each coordinate of that axis in the box, rising, of the places with it" */
    private static void rowsByAxis() {
        ArrayVault vault = Scene.ready();
        CHECKS.rows(vault, "count, sum(it) of b by x", Checks.row(0, 6, 69), Checks.row(1, 6, 669));
        CHECKS.rows(vault, "count, sum(it) of b by y", Checks.row(0, 4, 206), Checks.row(1, 4, 246), Checks.row(2, 4, 286));
        CHECKS.rows(vault, "count, sum(it) of b by z", Checks.row(0, 6, 366), Checks.row(1, 6, 372));
        CHECKS.rows(vault, "count, sum(it) of b [1, 1:2, *] by y", Checks.row(1, 2, 223), Checks.row(2, 2, 243));
        CHECKS.rows(vault, "count, sum(it) of b [1, 1:2, *] by x", Checks.row(1, 4, 466));
        CHECKS.rows(vault, "count, sum(it) of b [1, 1:2, 1] by z", Checks.row(1, 2, 234));
        CHECKS.rows(vault, "count, sum(it) of b [1, 1:2, 1]", Checks.row(0, 2, 234));
    }

    /** "count: how many": NULL cells, too */
    private static void count() {
        ArrayVault vault = Scene.ready();
        CHECKS.tells(vault, "count of c", 6);
        CHECKS.tells(vault, "count of a", 12);
        CHECKS.rows(vault, "count, count of a where null(it) by y", Checks.row(0, 0, 0), Checks.row(1, 0, 0),
            Checks.row(2, 1, 1));
    }

    /** "sum, min, max of the EXPR of those where it is not NULL" */
    private static void ofThoseThatAreNotNull() {
        ArrayVault vault = Scene.ready();
        CHECKS.rows(vault, "count, sum(it), min(it), max(it) of a", Checks.row(0, 12, 600, -5, 120));
        CHECKS.rows(vault, "min(-it), max(-it), sum(1) of a", Checks.row(0, -120, 5, 12));
        CHECKS.rows(vault, "sum(6 / x), min(6 / x), max(6 / x) of a", Checks.row(0, 36, 6, 6));
        CHECKS.rows(vault, "sum(a * 0 + 1), sum(b * 0 + 1) of a where z = 1", Checks.row(0, 5, 6));
        CHECKS.rows(vault, "max(it), min(it) of a where it < 0", Checks.row(0, -5, -5));
    }

    /** "(none: sum 0, the others NULL)" */
    private static void ofNone() {
        ArrayVault vault = Scene.ready();
        CHECKS.rows(vault, "sum(it), min(it), max(it), first(it) of a where 1 = 2", Checks.row(0, 0, NULL, NULL, NULL));
        CHECKS.rows(vault, "sum(it), min(it), max(it), first(it) of c", Checks.row(0, 0, NULL, NULL, NULL));
        CHECKS.rows(vault, "sum(1 / 0), min(1 / 0), max(1 / 0), first(1 / 0) of a", Checks.row(0, 0, NULL, NULL, NULL));
        CHECKS.rows(vault, "sum(0), min(0), max(0), first(0) of a [0, 0, 0]", Checks.row(0, 0, 0, 0, 0));
        CHECKS.tells(vault, "count of a where 1 = 2", 0);
    }

    /** "first: of the first of them (of those where it is not NULL; none: NULL)" */
    private static void firstOfThose() {
        ArrayVault vault = Scene.ready();
        CHECKS.tells(vault, "first(it) of a", -5);
        CHECKS.tells(vault, "first(it) of a where z = 1", 1);
        vault.wipe(0, 0, Checks.at(0, 1, 1));
        CHECKS.tells(vault, "first(it) of a", 20);
        CHECKS.tells(vault, "first(it) of a [*, 0:1, *]", 100);
        CHECKS.rows(vault, "first(it), first(b), first(x) of a where z = 1 by y", Checks.row(0, 101, 2, 0),
            Checks.row(1, 111, 12, 0), Checks.row(2, 21, 22, 0));
        CHECKS.tells(vault, "first(it) of a [0, 0:1, *]", NULL);
        vault.set(0, 0, 0, 0, 0);
        CHECKS.tells(vault, "first(it) of a", 0);
    }

    /** "A row with by is there also if none COUNTS" */
    private static void rowsOfWhichNoneCounts() {
        ArrayVault vault = Scene.ready();
        CHECKS.rows(vault, "count, sum(it), max(it) of a where y = 1 by y", Checks.row(0, 0, 0, NULL), Checks.row(1, 4, 242, 111),
            Checks.row(2, 0, 0, NULL));
        CHECKS.rows(vault, "count, first(it) of a where 1 = 2 by x", Checks.row(0, 0, NULL), Checks.row(1, 0, NULL));
        CHECKS.rows(vault, "count, min(it) of a [1, 1:2, *] where 1 = 2 by y", Checks.row(1, 0, NULL), Checks.row(2, 0, NULL));
    }
}
