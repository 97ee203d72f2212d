/** The edges of promises 1 and 13 to 16: one method for each sentence. */
final class AnswersEdgesTest {
    private static final Checks CHECKS = new Checks("AnswersEdgesTest");
    private static final long NULL = 1L << 62, NO = (1L << 62) + 1;
    private static final int LEAST = Integer.MIN_VALUE, GREATEST = Integer.MAX_VALUE;

    public static void main(String[] args) {
        noArrays();
        noVersions();
        noRows();
        objectsAreApart();
        queryAnswersNone();
        rowsStayWithAFault();
        noRowsByAFaultAtFirst();
        queryLeavesTheRest();
        rowsOfTheLatest();
        rowsWithoutByAndWithBy();
        cellOfTheCoordinate();
        cellOfTheTells();
        cellOfNull();
        cellOfNone();
        cellsAreThoseOfTheirTime();
        countOfArrays();
        countOfVersions();
        countOfTheGreatest();
        countOfCells();
        countOfTheWork();
        countOfColumns();
        countOfOthers();
        CHECKS.close();
    }

    /** Promise 1: "No arrays" */
    private static void noArrays() {
        ArrayVault vault = new ArrayVault();
        CHECKS.due("arrays", vault.count(0), 0);
        CHECKS.due("cells", vault.count(3), 0);
        CHECKS.due("cells that are not NULL", vault.count(4), 0);
        CHECKS.due("get", vault.get(0, 0, 0, 0, 0), Checks.NO_CELL);
        CHECKS.due("set", vault.set(0, 0, 0, 0, 0), ArrayVault.NONE);
        CHECKS.due("fill", vault.fill(0, 0, 0, 0, 0, 0, 0), ArrayVault.NONE);
        CHECKS.due("wipe", vault.wipe(0, 0, 0), ArrayVault.NONE);
        CHECKS.fault(vault, "count of ^a");
    }

    /** "no versions" */
    private static void noVersions() {
        ArrayVault vault = new ArrayVault();
        CHECKS.due("versions", vault.count(1), 0);
        CHECKS.due("the greatest", vault.count(2), 0);
        CHECKS.due("open", vault.open(1), ArrayVault.NONE);
        CHECKS.due("drop", vault.drop(1), ArrayVault.NONE);
        CHECKS.due("differ", vault.differ(0, 1), ArrayVault.NONE);
        CHECKS.due("the first", vault.commit(), 1);
    }

    /** "no rows" */
    private static void noRows() {
        ArrayVault vault = new ArrayVault();
        CHECKS.due("rows", vault.rows(), 0);
        CHECKS.due("columns", vault.count(5), 0);
        CHECKS.due("cell(0, 0)", vault.cell(0, 0), NO);
        CHECKS.due("cell(0, 1)", vault.cell(0, 1), NO);
        CHECKS.due("cell(-1, -1)", vault.cell(-1, -1), NO);
    }

    /** A new object is new beside others that are not. */
    private static void objectsAreApart() {
        ArrayVault one = Scene.ready();
        Checks.write(one, "count");
        ArrayVault two = new ArrayVault();
        CHECKS.due("arrays", two.count(0), 0);
        CHECKS.due("versions", two.count(1), 0);
        CHECKS.due("rows", two.rows(), 0);
        CHECKS.tapeHas("the tape", two, 0);
        Checks.make(two, "zz", 1, 1, 1);
        CHECKS.due("the first is as it was", one.count(0), 3);
        CHECKS.tapeHas("its tape", one, 5);
    }

    /** Promise 13: "is a query, which is done: NONE" */
    private static void queryAnswersNone() {
        ArrayVault vault = Scene.ready();
        Checks.write(vault, "max(it) of a");
        CHECKS.due("query", vault.query(), -2);
        CHECKS.due("its answer", vault.cell(0, 1), 120);
    }

    /** "Its FAULT if it has one: the rows stay" */
    private static void rowsStayWithAFault() {
        ArrayVault vault = Scene.ready();
        State before = State.of(vault);
        String[] faults = {"^", "^#", "count of a by x ^#", "max(it), max(it), max(it) of a [1, 1, 1] where 1 = 1 by z ^z",
            "sum(^c) of a", "min(it) of a [0:^9, *, *]", "count of a@^2", "count of a where it^", "count of ^nope by x"};
        for (String text : faults) {
            CHECKS.fault(vault, text);
        }
        CHECKS.unchanged("query with a fault", vault, before);
        CHECKS.tells(vault, "count of c", 6);
    }

    private static void noRowsByAFaultAtFirst() {
        ArrayVault vault = Scene.one();
        CHECKS.fault(vault, "count, count of a by ^w");
        CHECKS.due("rows", vault.rows(), 0);
        CHECKS.due("columns", vault.count(5), 0);
        CHECKS.due("cell", vault.cell(0, 0), NO);
    }

    /** A query changes nothing but the rows. */
    private static void queryLeavesTheRest() {
        ArrayVault vault = Scene.ready();
        State before = State.of(vault);
        CHECKS.rows(vault, "sum(it + b@1), first(a@3) of a@1 where not null(it) by z", Checks.row(0, 2 * 360 + 6, -5),
            Checks.row(1, 2 * 366 + 6, 1));
        CHECKS.due("the same query as at first", Checks.ask(vault, "count, sum(it) of a by x"), ArrayVault.NONE);
        CHECKS.unchanged("query", vault, before);
    }

    /** Promise 14: "How many rows the latest query without a fault has" */
    private static void rowsOfTheLatest() {
        ArrayVault vault = Scene.ready();
        CHECKS.due("of the scene", vault.rows(), 2);
        Checks.ask(vault, "count of a by y");
        CHECKS.due("of the latest", vault.rows(), 3);
        Checks.ask(vault, "count of a by");
        CHECKS.due("of the latest without a fault", vault.rows(), 3);
        Checks.ask(vault, "count of a");
        CHECKS.due("of the latest", vault.rows(), 1);
    }

    private static void rowsWithoutByAndWithBy() {
        ArrayVault vault = new ArrayVault();
        Checks.make(vault, "a", 24, 3, 24);
        CHECKS.due("query", Checks.ask(vault, "count of a"), ArrayVault.NONE);
        CHECKS.due("without by", vault.rows(), 1);
        CHECKS.due("query", Checks.ask(vault, "count of a by x"), ArrayVault.NONE);
        CHECKS.due("by x", vault.rows(), 24);
        CHECKS.due("query", Checks.ask(vault, "count of a by z"), ArrayVault.NONE);
        CHECKS.due("by z", vault.rows(), 24);
        CHECKS.due("the last", vault.cell(23, 1), 72);
        CHECKS.due("its coordinate", vault.cell(23, 0), 23);
        CHECKS.due("query", Checks.ask(vault, "count of a [23, 1:2, 5:22] by z"), ArrayVault.NONE);
        CHECKS.due("by z in a box", vault.rows(), 18);
        CHECKS.due("query", Checks.ask(vault, "count of a [23, 1:2, 5:22] by x"), ArrayVault.NONE);
        CHECKS.due("by x in a box", vault.rows(), 1);
    }

    /** Promise 15: "0 its coordinate (0 without by)" */
    private static void cellOfTheCoordinate() {
        ArrayVault vault = Scene.ready();
        Checks.ask(vault, "count of a [1, 2, 1]");
        CHECKS.due("without by", vault.cell(0, 0), 0);
        Checks.ask(vault, "count of a [1, 2, 1] by x");
        CHECKS.due("by x", vault.cell(0, 0), 1);
        Checks.ask(vault, "count of a [1, 1:2, 1] by y");
        CHECKS.due("by y", vault.cell(0, 0), 1);
        CHECKS.due("by y, the last", vault.cell(1, 0), 2);
        Checks.ask(vault, "count of a by z");
        CHECKS.due("by z", vault.cell(0, 0), 0);
        CHECKS.due("by z, the last", vault.cell(1, 0), 1);
        Checks.ask(vault, "count of a [1, 2, 1]");
        CHECKS.due("without by again", vault.cell(0, 0), 0);
    }

    /** "1 .. its TELLS" */
    private static void cellOfTheTells() {
        ArrayVault vault = Scene.ready();
        CHECKS.rows(vault, "max(it), min(it), first(it), count of a", Checks.row(0, 120, -5, -5, 12));
        CHECKS.rows(vault, "count, max(it), min(it) of a", Checks.row(0, 12, 120, -5));
        CHECKS.rows(vault, "first(b), count of a", Checks.row(0, 1, 12));
        CHECKS.rows(vault, "sum(z) of a", Checks.row(0, 6));
    }

    /** "2^62 if it is NULL" */
    private static void cellOfNull() {
        ArrayVault vault = Scene.ready();
        Checks.ask(vault, "min(it), max(it), first(it), sum(it) of c by y");
        for (int r = 0; r < 3; r++) {
            CHECKS.due("min", vault.cell(r, 1), 4611686018427387904L);
            CHECKS.due("max", vault.cell(r, 2), 4611686018427387904L);
            CHECKS.due("first", vault.cell(r, 3), 4611686018427387904L);
            CHECKS.due("sum is not", vault.cell(r, 4), 0);
            CHECKS.due("a coordinate is not", vault.cell(r, 0), r);
        }
    }

    /** "2^62 + 1 if there is none" */
    private static void cellOfNone() {
        ArrayVault vault = Scene.ready();
        CHECKS.due("the last", vault.cell(1, 2), 542);
        int[][] none = {{2, 0}, {2, 2}, {0, 3}, {1, 3}, {2, 3}, {-1, 0}, {0, -1}, {-1, -1}, {0, 4}, {0, 5}, {1, 5}, {23, 0},
            {24, 0}, {LEAST, 0}, {0, LEAST}, {GREATEST, 0}, {0, GREATEST}, {GREATEST, GREATEST}, {LEAST, LEAST}, {1 << 30, 1},
            {1, -5}, {-1, 5}};
        for (int[] n : none) {
            CHECKS.due("cell(" + n[0] + ", " + n[1] + ")", vault.cell(n[0], n[1]), 4611686018427387905L);
        }
        Checks.ask(vault, "max(it), count, count, count of c by y");
        CHECKS.due("a NULL that is there", vault.cell(2, 1), NULL);
        CHECKS.due("the fourth tell", vault.cell(2, 4), 2);
        CHECKS.due("no fifth", vault.cell(2, 5), NO);
        Checks.ask(vault, "max(it) of c");
        CHECKS.due("no row of the one before", vault.cell(1, 0), NO);
        CHECKS.due("no column of the one before", vault.cell(0, 2), NO);
    }

    /** The rows are those of the query's time, whatever becomes of the arrays. */
    private static void cellsAreThoseOfTheirTime() {
        ArrayVault vault = Scene.ready();
        vault.wipe(0, 0, Checks.at(1, 2, 1));
        vault.open(1);
        vault.drop(1);
        Checks.make(vault, "d", 1, 1, 1);
        vault.commit();
        CHECKS.due("rows", vault.rows(), 2);
        CHECKS.due("columns", vault.count(5), 3);
        CHECKS.due("of the first", vault.cell(0, 2), 58);
        CHECKS.due("of the second", vault.cell(1, 2), 542);
    }

    /** Promise 16: "What 0: arrays" */
    private static void countOfArrays() {
        ArrayVault vault = new ArrayVault();
        String[] names = {"a", "b", "c", "d", "e", "f", "g"};
        for (int i = 0; i < names.length; i++) {
            CHECKS.due("arrays", vault.count(0), i);
            Checks.make(vault, names[i], 1, 1, 1);
        }
        CHECKS.due("arrays", vault.count(0), 6);
    }

    /** "1: versions that are there" */
    private static void countOfVersions() {
        ArrayVault vault = Scene.one();
        for (int i = 0; i < 14; i++) {
            CHECKS.due("versions", vault.count(1), Math.min(i, 12));
            vault.commit();
        }
        vault.drop(3);
        CHECKS.due("versions", vault.count(1), 11);
        vault.drop(3);
        CHECKS.due("versions", vault.count(1), 11);
        vault.open(4);
        CHECKS.due("versions", vault.count(1), 11);
    }

    /** "2: the greatest number that one was ever given (0 before)" */
    private static void countOfTheGreatest() {
        ArrayVault vault = Scene.one();
        CHECKS.due("before", vault.count(2), 0);
        vault.commit();
        CHECKS.due("1", vault.count(2), 1);
        vault.drop(1);
        CHECKS.due("1 was given", vault.count(2), 1);
        for (int i = 2; i <= 13; i++) {
            vault.commit();
            CHECKS.due("greatest", vault.count(2), i);
        }
        vault.commit();
        CHECKS.due("FULL gives none", vault.count(2), 13);
        vault.open(5);
        CHECKS.due("open gives none", vault.count(2), 13);
    }

    /** "3: cells of all arrays" */
    private static void countOfCells() {
        ArrayVault vault = Scene.ready();
        CHECKS.due("cells", vault.count(3), 30);
        Checks.make(vault, "d", 20, 20, 5);
        CHECKS.due("cells", vault.count(3), 2030);
        Checks.make(vault, "d", 1, 1, 1);
        CHECKS.due("cells", vault.count(3), 2030);
        vault.open(1);
        CHECKS.due("cells", vault.count(3), 2030);
    }

    /** "4: those of the work that are not NULL" */
    private static void countOfTheWork() {
        ArrayVault vault = Scene.ready();
        CHECKS.due("all but one of a and b", vault.count(4), 23);
        vault.set(2, 0, 2, 1, 0);
        CHECKS.due("0 is not NULL", vault.count(4), 24);
        vault.set(2, 0, 2, 1, 5);
        CHECKS.due("one that was there", vault.count(4), 24);
        vault.wipe(0, 0, Checks.at(0, 2, 1));
        CHECKS.due("wiped", vault.count(4), 18);
        vault.commit();
        CHECKS.due("versions do not count", vault.count(4), 18);
        vault.open(1);
        CHECKS.due("the work of a version", vault.count(4), 24);
    }

    /** "5: columns of the rows, with that of the coordinate (0 before any query)" */
    private static void countOfColumns() {
        ArrayVault vault = Scene.one();
        CHECKS.due("before", vault.count(5), 0);
        CHECKS.fault(vault, "count, count of ^b");
        CHECKS.due("a fault is no query", vault.count(5), 0);
        String text = "count";
        for (int tells = 1; tells <= 4; tells++) {
            CHECKS.due(text, Checks.ask(vault, text + " of a"), ArrayVault.NONE);
            CHECKS.due("columns of " + tells, vault.count(5), tells + 1);
            text += ", max(it)";
        }
        CHECKS.fault(vault, "count, max(it), max(it), max(it), ^max(it) of a");
        CHECKS.due("columns stay", vault.count(5), 5);
        Checks.ask(vault, "count of a by x");
        CHECKS.due("with by", vault.count(5), 2);
    }

    /** "REFUSED for others" */
    private static void countOfOthers() {
        ArrayVault vault = Scene.ready();
        State before = State.of(vault);
        for (int what : new int[] {-1, -2, 6, 7, 256, LEAST, GREATEST}) {
            CHECKS.due("count(" + what + ")", vault.count(what), ArrayVault.REFUSED);
        }
        CHECKS.due("count(0) is not", vault.count(0), 3);
        CHECKS.due("count(5) is not", vault.count(5), 3);
        CHECKS.unchanged("count of others", vault, before);
    }
}
