/** Promises 13 to 15: what queries without a fault answer. */
final class QueryTest {
    private static final Checks CHECKS = new Checks("QueryTest");
    private static final long NULL = Checks.NULL_ANSWER, NO = Checks.NO_ANSWER;

    public static void main(String[] args) {
        tells();
        ofNothing();
        boxes();
        rowsByAxis();
        order();
        arithmetic();
        nulls();
        tests();
        arraysBeside();
        wrapping();
        blanks();
        cells();
        rowsStay();
        largest();
        CHECKS.close();
    }

    /** Cells 100 * x + 10 * y + z, the one at the origin NULL. */
    private static ArrayVault grid() {
        ArrayVault vault = new ArrayVault();
        Checks.make(vault, "g", 3, 4, 2);
        vault.fill(0, 0, Checks.at(2, 3, 1), 0, 100, 10, 1);
        vault.wipe(0, 0, 0);
        return vault;
    }

    private static ArrayVault single(int value) {
        ArrayVault vault = new ArrayVault();
        Checks.make(vault, "a", 1, 1, 1);
        vault.set(0, 0, 0, 0, value);
        return vault;
    }

    private static void tells() {
        ArrayVault vault = grid();
        CHECKS.rows(vault, "count, sum(it), min(it), max(it) of g", Checks.row(0, 24, 2772, 1, 231));
        CHECKS.rows(vault, "first(it), count, count of g", Checks.row(0, 1, 24, 24));
        CHECKS.rows(vault, "max(it), max(0 - it), min(0 - it), first(x) of g", Checks.row(0, 231, -1, -231, 0));
        CHECKS.rows(vault, "sum(1) of g", Checks.row(0, 24));
    }

    private static void ofNothing() {
        ArrayVault vault = grid();
        CHECKS.rows(vault, "sum(it), min(it), max(it), first(it) of g where 1 = 2", Checks.row(0, 0, NULL, NULL, NULL));
        CHECKS.rows(vault, "count of g where 1 = 2", Checks.row(0, 0));
        CHECKS.rows(vault, "count, sum(it), max(it) of g [0, 0, 0]", Checks.row(0, 1, 0, NULL));
        CHECKS.rows(vault, "count, first(it) of g where x = 1 by x", Checks.row(0, 0, NULL), Checks.row(1, 8, 100),
            Checks.row(2, 0, NULL));
    }

    private static void boxes() {
        ArrayVault vault = grid();
        CHECKS.tells(vault, "count of g [*, *, *]", 24);
        CHECKS.tells(vault, "count of g [0:2, 0:3, 0:1]", 24);
        CHECKS.rows(vault, "count, sum(it) of g [1, 2, 1]", Checks.row(0, 1, 121));
        CHECKS.rows(vault, "count, min(it), max(it) of g [1:2, 3, *]", Checks.row(0, 4, 130, 231));
        CHECKS.rows(vault, "count, min(it), max(it) of g [*, 1:2, 0:0]", Checks.row(0, 6, 10, 220));
        CHECKS.rows(vault, "min(x), min(y), min(z) of g [2, 3, 1]", Checks.row(0, 2, 3, 1));
        CHECKS.tells(vault, "count of g [0002, 00:1, *]", 4);
    }

    private static void rowsByAxis() {
        ArrayVault vault = grid();
        CHECKS.rows(vault, "count, sum(it) of g by x", Checks.row(0, 8, 124), Checks.row(1, 8, 924), Checks.row(2, 8, 1724));
        CHECKS.rows(vault, "count, max(it) of g by z", Checks.row(0, 12, 230), Checks.row(1, 12, 231));
        CHECKS.rows(vault, "first(it) of g by y", Checks.row(0, 1), Checks.row(1, 10), Checks.row(2, 20), Checks.row(3, 30));
        CHECKS.rows(vault, "sum(y) of g [*, 1:2, *] by y", Checks.row(1, 6), Checks.row(2, 12));
        CHECKS.rows(vault, "count of g [1, *, *] by x", Checks.row(1, 8));
        CHECKS.rows(vault, "count of g [1:2, 2:3, 1] where it > 130 by y", Checks.row(2, 1), Checks.row(3, 2));
    }

    private static void order() {
        ArrayVault vault = grid();
        CHECKS.tells(vault, "first(it) of g where z = 1", 1);
        CHECKS.tells(vault, "first(it) of g where y > 0", 10);
        CHECKS.tells(vault, "first(it) of g where y + z > 0 and x > 0", 101);
        CHECKS.tells(vault, "first(it) of g where x = 2 or y = 3 and z = 1", 31);
        CHECKS.tells(vault, "first(it / (it - 1)) of g", 1);
    }

    private static void arithmetic() {
        ArrayVault vault = single(7);
        String[] texts = {"2 + 3 * 4", "(2 + 3) * 4", "2 - 3 - 4", "100 / 5 / 4", "100 / (5 / 4)", "7 % 4 * 10", "2 * 7 % 4",
            "-7 / 2", "-7 % 2", "7 / -2", "7 % -2", "-7 % -2", "- - 7", "--7", "5 - -3", "5--3", "-2 * 3", "-(2 + 3)",
            "abs(-5)", "abs(3 - 5) * 2", "-abs(-5)", "abs(5)", "it * it", "2147483647 + 1", "0 - 7 / 2", "x + y + z",
            "1 - 2 * 3 + 4", "10 % 4 / 2", "((1))", "007"};
        long[] want = {14, 20, -5, 5, 100, 30, 2, -3, -1, -3, 1, -1, 7, 7, 8, 8, -6, -5, 5, 4, -5, 5, 49, 2147483648L, -3, 0,
            -1, 1, 1, 7};
        for (int i = 0; i < texts.length; i++) {
            CHECKS.tells(vault, "sum(" + texts[i] + ") of a", want[i]);
        }
    }

    private static ArrayVault singleNull() {
        ArrayVault vault = new ArrayVault();
        Checks.make(vault, "n", 1, 1, 1);
        return vault;
    }

    private static void nulls() {
        String[] nulls = {"it", "-it", "abs(it)", "it + 1", "1 - it", "it * 0", "0 * it", "0 / it", "it / 1", "it % 1",
            "1 / 0", "1 % 0", "0 / 0", "1 / (1 - 1) + 1", "n", "-(1 / 0)", "abs(1 % 0)"};
        for (String text : nulls) {
            ArrayVault vault = singleNull();
            CHECKS.tells(vault, "max(" + text + ") of n", NULL);
            CHECKS.tells(vault, "sum(" + text + ") of n", 0);
            CHECKS.tells(vault, "count of n where null(" + text + ")", 1);
            CHECKS.tells(vault, "count of n where not null(" + text + ")", 0);
        }
        String[] others = {"1", "0 / 1", "x", "0 % 5"};
        for (String text : others) {
            ArrayVault vault = singleNull();
            CHECKS.tells(vault, "count of n where null(" + text + ")", 0);
        }
        for (String sign : new String[] {"=", "!=", "<", "<=", ">", ">="}) {
            ArrayVault vault = singleNull();
            CHECKS.tells(vault, "count of n where it " + sign + " 1", 0);
            CHECKS.tells(vault, "count of n where 1 " + sign + " it", 0);
            CHECKS.tells(vault, "count of n where it " + sign + " it", 0);
            CHECKS.tells(vault, "count of n where not it " + sign + " 1", 1);
        }
    }

    private static void tests() {
        ArrayVault vault = single(7);
        String[] right = {"1 = 1", "1 != 2", "1 < 2", "1 <= 1", "2 > 1", "1 >= 1", "it = 7", "1 = 1 or 1 = 2", "1 = 2 or 1 = 1",
            "not 1 = 2", "not not 1 = 1", "1 = 1 and 2 = 2", "1 = 1 or 1 = 1 and 1 = 2", "not 1 = 2 and 1 = 1",
            "(1 = 2 or 1 = 1) and 1 = 1", "not (1 = 1 and 1 = 2)", "((1 = 1))", "-1 < 0", "-(1) = -1", "abs(-1) = (1)",
            "1 = (2 - 1)", "1 + 1 = 2", "not null(it)", "not (null(it))", "1<2and 2<3", "1<=2", "-9 < -8"};
        String[] wrong = {"1 = 2", "1 != 1", "2 < 1", "1 < 1", "2 <= 1", "1 > 1", "1 >= 2", "1 = 2 or 1 = 2", "not 1 = 1",
            "1 = 1 and 1 = 2", "1 = 2 and 1 = 1", "(1 = 1 or 1 = 1) and 1 = 2", "1 = 2 and 1 = 2 or 1 = 2",
            "not 1 = 1 or 1 = 2", "not (1 = 2 or 1 = 1)", "null(it)", "not not 1 = 2", "1 = 2 or 1 = 1 and 1 = 2",
            "not 1 = 2 and 1 = 2"};
        for (String text : right) {
            CHECKS.tells(vault, "count of a where " + text, 1);
        }
        for (String text : wrong) {
            CHECKS.tells(vault, "count of a where " + text, 0);
        }
    }

    private static void arraysBeside() {
        ArrayVault vault = new ArrayVault();
        Checks.make(vault, "a", 2, 2, 1);
        Checks.make(vault, "b", 2, 2, 1);
        vault.fill(0, 0, Checks.at(1, 1, 0), 1, 1, 10, 0);
        vault.fill(1, 0, Checks.at(1, 1, 0), 1000, 1, 10, 0);
        vault.commit();
        vault.fill(0, 0, Checks.at(1, 1, 0), 500, 0, 0, 0);
        vault.set(1, 1, 1, 0, 0);
        vault.commit();
        vault.wipe(0, Checks.at(1, 0, 0), Checks.at(1, 0, 0));
        CHECKS.tells(vault, "sum(b - it) of a@1", 999 * 3 - 12);
        CHECKS.tells(vault, "sum(b@1 - it) of a@1", 999 * 4);
        CHECKS.tells(vault, "sum(it) of a", 1500);
        CHECKS.tells(vault, "sum(a) of a@1", 1500);
        CHECKS.tells(vault, "sum(a@2) of a", 2000);
        CHECKS.tells(vault, "sum(a@1 + it) of a@2", 2000 + 26);
        CHECKS.tells(vault, "sum(b @ 1) of a where a @ 1 > 10", 2021);
        CHECKS.tells(vault, "count of a where a != a@2 or b != b@2", 0);
        CHECKS.tells(vault, "count of a where null(it) and not null(a@2)", 1);
        CHECKS.rows(vault, "sum(a) of b [1, *, *] by y", Checks.row(0, 0), Checks.row(1, 500));
    }

    private static void wrapping() {
        ArrayVault vault = single(1);
        String least = "(0 - 2147483647 * 2147483647 * 2 - 2147483647 * 4 - 2)";
        CHECKS.tells(vault, "sum(" + least + ") of a", Long.MIN_VALUE);
        CHECKS.tells(vault, "sum(" + least + " - 1) of a", Long.MAX_VALUE);
        CHECKS.tells(vault, "sum(-" + least + ") of a", Long.MIN_VALUE);
        CHECKS.tells(vault, "sum(abs" + least + ") of a", Long.MIN_VALUE);
        CHECKS.tells(vault, "sum(" + least + " / -1) of a", Long.MIN_VALUE);
        CHECKS.tells(vault, "max(" + least + " % -1) of a", 0);
        CHECKS.tells(vault, "min(" + least + " * 3) of a", Long.MIN_VALUE);
        CHECKS.tells(vault, "sum(2147483647 * 2147483647 * 2147483647) of a", 2147483647L * 2147483647L * 2147483647L);
        Checks.make(vault, "b", 3, 1, 1);
        CHECKS.tells(vault, "sum(2147483647 * 2147483647) of b", 3 * (2147483647L * 2147483647L));
        vault.set(0, 0, 0, 0, Integer.MIN_VALUE);
        CHECKS.tells(vault, "sum(-it) of a", 2147483648L);
    }

    private static void blanks() {
        ArrayVault vault = grid();
        CHECKS.rows(vault, "count,sum(it)of g[1,*,*]where it>=100by x", Checks.row(1, 8, 924));
        CHECKS.rows(vault, "   count ,  sum  (  it  )  of  g  [ 1 , * , * ]  where  it  >=  100  by  x   ", Checks.row(1, 8, 924));
        CHECKS.tells(vault, "sum(2)of g", 48);
    }

    private static void cells() {
        ArrayVault vault = grid();
        CHECKS.due("rows before", vault.rows(), 0);
        CHECKS.due("cell before", vault.cell(0, 0), NO);
        CHECKS.rows(vault, "count, max(it) of g [1:2, *, *] where x = 1 by x", Checks.row(1, 8, 131), Checks.row(2, 0, NULL));
        int[][] none = {{2, 0}, {-1, 0}, {0, 3}, {0, -1}, {2, 3}, {0, 4}, {0, 5}, {1, 3}, {24, 0}, {0, 24},
            {Integer.MAX_VALUE, 0}, {0, Integer.MAX_VALUE}, {Integer.MIN_VALUE, 0}, {0, Integer.MIN_VALUE}};
        for (int[] n : none) {
            CHECKS.due("cell " + n[0] + " " + n[1], vault.cell(n[0], n[1]), NO);
        }
        CHECKS.rows(vault, "count, count, count, count of g by y", Checks.row(0, 6, 6, 6, 6), Checks.row(1, 6, 6, 6, 6),
            Checks.row(2, 6, 6, 6, 6), Checks.row(3, 6, 6, 6, 6));
        CHECKS.rows(vault, "max(1 / 0) of g", Checks.row(0, NULL));
        CHECKS.due("what was there is there no more", vault.cell(1, 0), NO);
        CHECKS.due("nor its columns", vault.cell(0, 2), NO);
    }

    private static void rowsStay() {
        ArrayVault vault = grid();
        CHECKS.rows(vault, "sum(it), count of g by z", Checks.row(0, 1320 + 60, 12), Checks.row(1, 1392, 12));
        CHECKS.fault(vault, "count of g by ^w");
        CHECKS.fault(vault, "max(it) of g by^");
        CHECKS.fault(vault, "^");
        vault.wipe(0, 0, Checks.at(2, 3, 1));
        vault.commit();
        vault.open(1);
        CHECKS.due("rows", vault.rows(), 2);
        CHECKS.due("columns", vault.count(5), 3);
        CHECKS.due("a cell", vault.cell(1, 1), 1392);
        CHECKS.due("a coordinate", vault.cell(1, 0), 1);
    }

    /** As much as a query may have: 24 rows, 2000 cells, 100 factors, 8 levels, 600 bytes. */
    private static void largest() {
        ArrayVault vault = new ArrayVault();
        Checks.make(vault, "big", 24, 3, 24);
        vault.fill(0, 0, Checks.at(23, 2, 23), 1, 0, 0, 0);
        StringBuilder text = new StringBuilder("sum(it");
        for (int i = 1; i < 100; i++) {
            text.append(" + it");
        }
        text.append(") of big by z");
        CHECKS.due("100 factors", Checks.ask(vault, text.toString()), ArrayVault.NONE);
        CHECKS.due("24 rows", vault.rows(), 24);
        CHECKS.due("the last", vault.cell(23, 1), 7200);
        CHECKS.tells(vault, "sum(((((((((it))))))))) of big", 1728);
        CHECKS.tells(vault, "sum(--------it) of big", 1728);
        CHECKS.tells(vault, "sum(-abs(-abs(-(-(it))))) of big", -1728);
        CHECKS.tells(vault, "count of big where not not not not not not not not it = 1", 1728);
        CHECKS.tells(vault, "count of big where (((not (not null(-it))))) or not not (it = 1)", 1728);
        String right = "1 - (1 - (1 - (1 - (1 - (1 - (1 - (1 - (1))))))))";
        CHECKS.tells(vault, "sum(" + right + ") of big [0, 0, 0]", 1);
        String full = "count of big [0, 0, 0]";
        CHECKS.tells(vault, full + " ".repeat(600 - full.length()), 1);
    }
}
