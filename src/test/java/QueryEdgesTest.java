/** The edges of QUERY and FAULT in the document's Terms: one method for each sentence. Faults are due at the mark ^. */
final class QueryEdgesTest {
    private static final Checks CHECKS = new Checks("QueryEdgesTest");

    public static void main(String[] args) {
        oneToFourTells();
        tellsBeforeTheArray();
        bracketsOfTells();
        oneBoxOrNone();
        oneTestOrNone();
        oneAxisOrNone();
        partsInTheirOrder();
        arrayWithoutAVersionIsTheWork();
        versionThatIsThere();
        rangesBelowTheSize();
        secondNotLess();
        threeRanges();
        factors();
        arrayOfTheSameSizes();
        tellsArrayOfOtherSizes();
        firstDoesNotBeginWithABracket();
        tests();
        sixSigns();
        bracketsEightDeep();
        bracketsOfAbsEightDeep();
        bracketsOfNullEightDeep();
        notsEightDeep();
        minusesEightDeep();
        allKindsTogetherEightDeep();
        whatIsNotDeep();
        hundredFactors();
        whatIsNoFactorOfTheHundred();
        faultOfTheFirst();
        faultOfOneTooMuch();
        faultOutOfRange();
        faultUnknown();
        faultOfOtherSizes();
        faultOfAVersion();
        faultOfAByte();
        faultOfAWordOrNumber();
        faultOfTheEnd();
        everyPrefix();
        CHECKS.close();
    }

    /** No query of these has a fault. */
    private static void good(String... texts) {
        ArrayVault vault = Scene.ready();
        for (String text : texts) {
            CHECKS.due(text, Checks.ask(vault, text), ArrayVault.NONE);
        }
    }

    /** All of these have one, and leave all but the tape as it was. */
    private static void faults(String... texts) {
        ArrayVault vault = Scene.ready();
        State before = State.of(vault);
        for (String text : texts) {
            CHECKS.fault(vault, text);
        }
        CHECKS.unchanged("queries with a fault", vault, before);
    }

    private static String times(int n, String text) {
        return text.repeat(n);
    }

    /** "1 to 4 TELLS" */
    private static void oneToFourTells() {
        good("count of a", "count, count of a", "count, sum(it), count of a", "sum(it), min(it), max(it), first(it) of a");
        faults("^of a", "^", "count, count, count, count, ^count of a", "sum(it), min(it), max(it), first(it), ^count of a",
            "count, count, count, count, ^sum(it) of a", "count, count, count, count, ^of a", "count, count, count, count,^",
            "count, ^of a", "^, count of a", "count ^count of a", "count ^; count of a");
    }

    private static void tellsBeforeTheArray() {
        faults("^a", "^it of a", "^1 of a", "^abs(it) of a", "^null(it) of a", "^not count of a", "^avg(it) of a",
            "^(count) of a", "count ^a", "count ^where 1 = 1", "count ^by x", "count ^[*, *, *] of a", "count^");
    }

    /** "count, or sum ( EXPR ), min ( EXPR ), max ( EXPR ), first ( EXPR )" */
    private static void bracketsOfTells() {
        good("sum(it)of a", "min(it)of a", "max(it)of a", "first(it)of a", "count of a");
        faults("count ^(it) of a", "sum ^of a", "sum ^it of a", "min ^it of a", "max ^it of a", "first ^it of a", "sum(^) of a",
            "sum(it ^of a", "sum(it ^, it) of a", "sum(it)^) of a", "sum(it) ^+ 1 of a", "sum(^sum(it)) of a", "sum(^count) of a",
            "sum(it ^= 1) of a", "sum(^not it) of a", "sum(^null(it)) of a", "sum^[it] of a");
    }

    /** "["[" RANGE , RANGE , RANGE "]"]": one or none */
    private static void oneBoxOrNone() {
        good("count of a", "count of a [*, *, *]", "count of a@1 [*, *, *]");
        faults("count of a [*, *, *] ^[*, *, *]", "count of a ^(*, *, *)", "count of a ^*, *, *", "count of a ^]");
    }

    /** "[where TEST]": one or none */
    private static void oneTestOrNone() {
        good("count of a where x = 0", "count of a [*, *, *] where x = 0");
        faults("count of a where x = 0 ^where x = 0", "count of a ^x = 0", "count of a where^", "count of a where ^by x",
            "count of a ^and x = 0");
    }

    /** "[by AXIS]": one or none; "AXIS: x, y or z" */
    private static void oneAxisOrNone() {
        good("count of a by x", "count of a by y", "count of a by z");
        faults("count of a by x ^by y", "count of a by x ^, y", "count of a by x ^y", "count of a by^", "count of a by ^w",
            "count of a by ^it", "count of a by ^a", "count of a by ^1", "count of a by ^xy", "count of a by ^(x)",
            "count of a ^x");
    }

    private static void partsInTheirOrder() {
        good("count of a @ 1 [*, *, *] where x = 0 by x");
        faults("count of a [*, *, *] ^@ 1", "count of a where x = 0 ^[*, *, *]", "count of a by x ^where x = 0",
            "count of a by x ^[*, *, *]", "count of a by x ^of a", "count ^by x of a", "count ^where x = 0 of a");
    }

    /** "ARRAY: NAME [@ NUMBER]: ... else it is the work" */
    private static void arrayWithoutAVersionIsTheWork() {
        ArrayVault vault = Scene.ready();
        CHECKS.rows(vault, "sum(it), first(it) of a", Checks.row(0, 600, -5));
        CHECKS.rows(vault, "sum(a), first(a) of b", Checks.row(0, 600, -5));
        CHECKS.tells(vault, "count of b where null(a)", 1);
        vault.set(0, 1, 2, 1, 9);
        CHECKS.tells(vault, "sum(it) of a", 609);
    }

    /** "the number is that of a version that is there" */
    private static void versionThatIsThere() {
        ArrayVault vault = Scene.ready();
        CHECKS.rows(vault, "sum(it), first(it) of a@1", Checks.row(0, 726, 0));
        CHECKS.rows(vault, "sum(it), first(it) of a@3", Checks.row(0, 721, -5));
        CHECKS.rows(vault, "sum(a@1), sum(a@3) of a", Checks.row(0, 726, 721));
        CHECKS.tells(vault, "count of a where a@1 != a@3", 1);
        CHECKS.tells(vault, "count of a@0001", 12);
        faults("count of a@^0", "count of a@^2", "count of a@^4", "count of a@^12", "count of a@^2147483647", "count of a@^-1",
            "count of a@^", "count of a@^x", "count of a@^a", "count of a@1 ^@3", "count of a ^1", "sum(a@^0) of a",
            "sum(a@^2) of a", "sum(a@^4) of a", "sum(a@^) of a", "count of a where b@^0 = 1", "count of a where b@^2 = 1",
            "count of a where b@^4 = 1", "sum(it^@1) of a", "sum(x^@1) of a", "sum(1^@1) of a");
    }

    /** "RANGE ... all below the size" */
    private static void rangesBelowTheSize() {
        good("count of a [0, 0, 0]", "count of a [1, 2, 1]", "count of a [0:1, 0:2, 0:1]", "count of c [0, 2, 1]");
        faults("count of a [^2, *, *]", "count of a [*, ^3, *]", "count of a [*, *, ^2]", "count of a [0:^2, *, *]",
            "count of a [*, 0:^3, *]", "count of a [*, *, 0:^2]", "count of a [^2:2, *, *]", "count of a [^2:0, *, *]",
            "count of c [^1, *, *]", "count of a [^2147483647, *, *]", "count of a [0:^2147483647, *, *]",
            "count of a [^-1, *, *]", "count of a [0:^-1, *, *]");
        ArrayVault vault = Scene.ready();
        CHECKS.rows(vault, "count, first(x), first(y), first(z) of a [1, 2, 1]", Checks.row(0, 1, 1, 2, 1));
        CHECKS.rows(vault, "count of a [0:1, 1, *] by y", Checks.row(1, 4));
    }

    /** "the second not less" */
    private static void secondNotLess() {
        good("count of a [0:0, 0:0, 0:0]", "count of a [1:1, 2:2, 1:1]", "count of a [*, 1:2, *]");
        faults("count of a [1:^0, *, *]", "count of a [*, 1:^0, *]", "count of a [*, 2:^1, *]", "count of a [*, *, 1:^0]");
        ArrayVault vault = Scene.ready();
        CHECKS.tells(vault, "count of a [1:1, 1:2, *]", 4);
    }

    private static void threeRanges() {
        faults("count of a [^", "count of a [^]", "count of a [^, *, *]", "count of a [*^", "count of a [*^]",
            "count of a [*, *^]", "count of a [*, *,^", "count of a [*, *, ^]", "count of a [*, *, *^",
            "count of a [*, *, *^, *]", "count of a [* ^*, *]", "count of a [0:^, *, *]", "count of a [0:^*, *, *]",
            "count of a [^:1, *, *]", "count of a [0:1^:1, *, *]", "count of a [*^:1, *, *]", "count of a [0 ^1, *, *]",
            "count of a [^x, *, *]", "count of a [0^+1, *, *]", "count of a [*, *, *^) by x", "count of a [^(0), *, *]");
    }

    /** "FACTOR: NUMBER; - FACTOR; abs ( EXPR ); x, y, z; it; ARRAY; ( EXPR )" and what joins them */
    private static void factors() {
        good("sum(1) of a", "sum(-1) of a", "sum(abs(1)) of a", "sum(x + y + z) of a", "sum(it) of a", "sum(b) of a",
            "sum(b@1) of a", "sum((1)) of a", "sum(1 * -2) of a", "sum(1 - -2) of a", "sum(- - 1) of a", "sum(-abs(-(-x))) of a");
        faults("sum(^+1) of a", "sum(^*1) of a", "sum(1 +^) of a", "sum(1 + ^+ 1) of a", "sum(1 * ^* 1) of a",
            "sum(1 - ^/ 1) of a", "sum(1 ^1) of a", "sum(x ^y) of a", "sum(it ^it) of a", "sum(2 ^(1)) of a", "sum(it ^(1)) of a",
            "sum(-^) of a", "sum((^)) of a", "sum((1 ^of a", "sum(abs ^it) of a", "sum(abs(^)) of a", "sum(abs(it ^of a",
            "sum(^[it]) of a", "sum(^@1) of a", "sum(^where) of a", "sum(^by) of a", "sum(^of a", "sum(it ^and it) of a",
            "sum(1 ^: 2) of a");
    }

    /** "ARRAY: the cell at the place of another one (or the same), which has the same sizes" */
    private static void arrayOfTheSameSizes() {
        ArrayVault vault = new ArrayVault();
        Checks.make(vault, "a", 2, 3, 4);
        Checks.make(vault, "same", 2, 3, 4);
        Checks.make(vault, "dx", 1, 3, 4);
        Checks.make(vault, "dy", 2, 4, 4);
        Checks.make(vault, "dz", 2, 3, 3);
        Checks.make(vault, "turn", 4, 3, 2);
        vault.commit();
        for (String name : new String[] {"a", "same", "a@1", "same@1"}) {
            CHECKS.due(name, Checks.ask(vault, "count of a where null(" + name + ")"), ArrayVault.NONE);
            CHECKS.due(name, Checks.ask(vault, "sum(" + name + ") of a"), ArrayVault.NONE);
        }
        for (String name : new String[] {"dx", "dy", "dz", "turn", "dx@1", "turn@1", "dx@9"}) {
            CHECKS.fault(vault, "count of a where null(^" + name + ")");
        }
        for (String name : new String[] {"dx", "dy", "dz", "turn", "dx@1", "turn@1"}) {
            CHECKS.fault(vault, "sum(^" + name + ") of a");
            CHECKS.due(name, Checks.ask(vault, "sum(" + name + ") of " + name), ArrayVault.NONE);
        }
    }

    /** A tell's array is judged as soon as the query's array is named: its place is before all that is read from there on. */
    private static void tellsArrayOfOtherSizes() {
        good("sum(c) of c", "sum(c@1) of c", "sum(a + b) of a", "sum(b) of a@1");
        faults("sum(^c) of a", "sum(a + ^c) of a", "sum(^c + c) of a", "sum(^a) of c", "count, sum(it), max(b * ^c@1) of a",
            "sum(^c) of a by w", "sum(^c) of a [9, *, *]", "sum(^c) of a where", "sum(^c) of a #", "sum(^c) of a@9",
            "sum(b), sum(^c), max(it) of a");
        faults("sum(c ^of a", "sum(c) of ^nope", "sum(c) of^", "sum(c@^2) of a", "sum(c + ^nope) of a", "sum(c) ^by x",
            "sum(c ^#) of a");
    }

    /** "EXPR SIGN EXPR, where the first does not begin with (" */
    private static void firstDoesNotBeginWithABracket() {
        good("count of a where it = (1)", "count of a where it * (1) = 1", "count of a where -(it) = 1",
            "count of a where abs(it) = 1", "count of a where (it = 1)", "count of a where ((it = 1))",
            "count of a where (it = (1))");
        faults("count of a where (it^) = 1", "count of a where (1 + 2^) = 3", "count of a where ((it^) = 1)",
            "count of a where (1 ^", "count of a where (it = 1) ^= 1", "count of a where (it = 1) ^+ 1 = 2",
            "count of a where not (it^) = 1", "count of a where 1 = 1 and (x^) = 1");
    }

    /** "TEST: ALL { or ALL }; ALL: NOT { and NOT }; NOT: not NOT; null ( EXPR ); ..." */
    private static void tests() {
        good("count of a where x = 1 or y = 1 and not z = 1 or null(it)", "count of a where not not null(it)",
            "count of a where not (x = 1 or y = 1) and z = 1", "count of a where (not (null(it)))");
        faults("count of a where x = 1 or^", "count of a where x = 1 and^", "count of a where not^",
            "count of a where x = 1 and ^or y = 1", "count of a where x = 1 ^not y = 1", "count of a where x ^and y",
            "count of a where not x ^and y = 1", "count of a where ^or x = 1", "count of a where null ^it",
            "count of a where null(^)", "count of a where null(it ^= 1)", "count of a where null(it) ^= 1",
            "count of a where null(it^", "count of a where 1 = ^null(it)", "count of a where 1 = ^not it", "count of a where (^)",
            "count of a where (x = 1^", "count of a where (x = 1 ^by x", "count of a where x = 1 ^) by x",
            "count of a where abs(it ^= 1)", "count of a where x = 1 ^, y = 1", "count of a where ^count = 1",
            "count of a where ^sum(it) = 1");
    }

    /** "SIGN: = != < <= > >=" */
    private static void sixSigns() {
        good("count of a where x = 1", "count of a where x != 1", "count of a where x < 1", "count of a where x <= 1",
            "count of a where x > 1", "count of a where x >= 1");
        faults("count of a where x = 1 ^= 1", "count of a where 0 < x ^< 2", "count of a where x =^= 1",
            "count of a where x <^> 1", "count of a where x =^> 1", "count of a where x ^1", "count of a where x ^",
            "count of a where x =^", "count of a where ^= 1", "count of a where x ^: 1");
    }

    /** "Brackets ... at most 8 deep" */
    private static void bracketsEightDeep() {
        ArrayVault vault = Scene.ready();
        CHECKS.tells(vault, "sum(" + times(8, "(") + "it" + times(8, ")") + ") of b", 738);
        CHECKS.tells(vault, "count of a where " + times(8, "(") + "x = 1" + times(8, ")"), 6);
        CHECKS.tells(vault, "count of a where 1 = " + times(8, "(") + "x" + times(8, ")"), 6);
        CHECKS.tells(vault, "count of a where " + times(7, "(") + "1 = (x)" + times(7, ")"), 6);
        faults("sum(" + times(8, "(") + "^(it" + times(9, ")") + ") of b",
            "count of a where " + times(8, "(") + "^(x = 1" + times(9, ")"),
            "count of a where 1 = " + times(8, "(") + "^(x" + times(9, ")"),
            "count of a where " + times(8, "(") + "1 = ^(x)" + times(8, ")"), "sum(" + times(8, "(") + "^" + times(300, "("));
    }

    /** "(of abs ..." */
    private static void bracketsOfAbsEightDeep() {
        ArrayVault vault = Scene.ready();
        CHECKS.tells(vault, "sum(" + times(8, "abs(") + "x" + times(8, ")") + ") of b", 6);
        CHECKS.tells(vault, "count of a where " + times(8, "abs(") + "x" + times(8, ")") + " = 1", 6);
        faults("sum(" + times(8, "abs(") + "abs^(x" + times(9, ")") + ") of b", "count of a where " + times(8, "abs(") + "abs^(x",
            "sum(" + times(8, "abs(") + "abs^");
    }

    /** "null ..." */
    private static void bracketsOfNullEightDeep() {
        ArrayVault vault = Scene.ready();
        CHECKS.tells(vault, "count of a where null(" + times(7, "(") + "it" + times(8, ")"), 1);
        CHECKS.tells(vault, "count of a where " + times(7, "(") + "null(it)" + times(7, ")"), 1);
        faults("count of a where null(" + times(7, "(") + "^(it" + times(9, ")"),
            "count of a where " + times(8, "(") + "null^(it)" + times(8, ")"));
    }

    /** "not" */
    private static void notsEightDeep() {
        ArrayVault vault = Scene.ready();
        CHECKS.tells(vault, "count of a where " + times(8, "not ") + "x = 1", 6);
        CHECKS.tells(vault, "count of a where " + times(7, "not ") + "(x != 1)", 6);
        CHECKS.tells(vault, "count of a where " + times(7, "not ") + "x != -1", 0);
        faults("count of a where " + times(8, "not ") + "^not x = 1", "count of a where " + times(8, "not ") + "^(x = 1)",
            "count of a where " + times(8, "not ") + "null^(x)", "count of a where " + times(8, "not ") + "x = ^-1",
            "count of a where " + times(8, "not ") + "^-x = 1", "count of a where " + times(8, "not ") + "x = ^(1)");
    }

    /** "and a - that is no TERM's" */
    private static void minusesEightDeep() {
        ArrayVault vault = Scene.ready();
        CHECKS.tells(vault, "sum(" + times(8, "-") + "x) of b", 6);
        CHECKS.tells(vault, "sum(1 - " + times(8, "-") + "x) of b", 6);
        CHECKS.tells(vault, "sum(" + times(7, "- ") + "(x)) of b", -6);
        faults("sum(" + times(8, "-") + "^-x) of b", "sum(1 - " + times(8, "-") + "^-x) of b",
            "sum(" + times(8, "- ") + "^(x)) of b", "sum(1 * " + times(8, "-") + "^-x) of b",
            "sum(" + times(8, "-") + "abs^(x)) of b");
    }

    private static void allKindsTogetherEightDeep() {
        ArrayVault vault = Scene.ready();
        CHECKS.tells(vault, "count of a where not (not null(-(-abs(it))))", 1);
        CHECKS.fault(vault, "count of a where not (not null(-(-abs(^-it))))");
        CHECKS.fault(vault, "count of a where not (not null(-(-abs(^(it)))))");
        CHECKS.fault(vault, "count of a where not (not null(-(-abs(abs^(it)))))");
        CHECKS.tells(vault, "count of a where (not (not (not (not x = 1))))", 6);
        CHECKS.fault(vault, "count of a where (not (not (not (not x = ^-1))))");
    }

    /** "not of TELLS"; what is closed; what stands beside; TERMs' signs; boxes */
    private static void whatIsNotDeep() {
        ArrayVault vault = Scene.ready();
        String eight = times(8, "(") + "x" + times(8, ")");
        CHECKS.rows(vault, "sum(" + eight + "), max(" + eight + ") of b where 1 = " + eight, Checks.row(0, 6, 1));
        CHECKS.tells(vault, "sum(" + eight + " + " + eight + " - " + eight + ") of b", 6);
        CHECKS.tells(vault, "sum(9 - 1 - 1 - 1 - 1 - 1 - 1 - 1 - 1 - 1 - 1) of b [0, 0, 0]", -1);
        CHECKS.tells(vault, "sum(-1 - -1 - -1 - -1 - -1 - -1 - -1 - -1 - -1 - -1) of b [0, 0, 0]", 8);
        CHECKS.tells(vault,
            "count of a where not x = 0 and not x = 0 and not x = 0 and not x = 0 and not x = 0 and not x = 0 and not x = 0"
            + " and not x = 0 and not x = 0", 6);
        CHECKS.tells(vault, "count of a [0, 0, 0] where (x = 0) and (x = 0) or (x = 0) or ((x = 0)) or (((((((x = 0)))))))", 1);
    }

    /** "at most 100 FACTORS that are no brackets, abs and -" */
    private static void hundredFactors() {
        ArrayVault vault = Scene.ready();
        CHECKS.tells(vault, "sum(1" + times(99, "+1") + ") of c [0, 0, 0]", 100);
        CHECKS.tells(vault, "sum(x" + times(99, "+y") + ") of c [0, 1, 0]", 99);
        CHECKS.tells(vault, "sum(it" + times(99, "+it") + ") of b [0, 0, 0]", 100);
        CHECKS.tells(vault, "sum(b" + times(99, "+b@1") + ") of b [0, 0, 0]", 100);
        CHECKS.rows(vault, "sum(1" + times(49, "*1") + "), sum(1" + times(47, "*1") + ") of c where 1 = 1", Checks.row(0, 6, 6));
        CHECKS.tells(vault, "count of c where x=0" + times(49, " and x=0"), 6);
        faults("sum(1" + times(99, "+1") + "+^1) of c", "sum(1" + times(99, "+1") + "+^x) of c",
            "sum(1" + times(99, "+1") + "+^it) of c", "sum(1" + times(99, "+1") + "+^c) of c",
            "sum(1" + times(99, "+1") + "+^c@9) of c");
        faults("sum(1" + times(99, "+1") + "), min(^1) of c", "sum(1" + times(99, "+1") + ") of c where ^1 = 1");
        faults("sum(1" + times(98, "+1") + ") of c where 1 = ^1", "sum(1" + times(99, "+1") + "+-(-abs(^1");
    }

    /** Brackets, abs, -, and all that is no FACTOR. */
    private static void whatIsNoFactorOfTheHundred() {
        ArrayVault vault = Scene.ready();
        CHECKS.tells(vault, "sum(-(1)" + times(99, "+(1)") + ") of c@1 [0:0, 0, 0]", 98);
        CHECKS.tells(vault, "sum(-1" + times(99, "--1") + ") of c [0, 0, 0]", 98);
        CHECKS.tells(vault, "sum(abs(1)" + times(49, "+abs(1)") + times(50, "+1") + ") of c [0, 0, 0]", 100);
        CHECKS.tells(vault, "sum(1" + times(99, "+1") + ") of c [0, 0, 0]", 100);
        CHECKS.rows(vault, "count, sum(1" + times(97, "+1") + "), count of c@3 [0:0, 1:2, 0:1] where 1 = (1) by y",
            Checks.row(1, 2, 196, 2), Checks.row(2, 2, 196, 2));
    }

    /** "the place of the first token that can not stand there" */
    private static void faultOfTheFirst() {
        faults("^of of of", "count ^a nope #", "count of ^nope by w", "count of a [^9, 9, 9] by w", "count of a where ^c = nope",
            "count of a by ^w w", "sum(^nope + nope) of nope", "count, ^, of nope", "count of a@^9 [9, *, *]",
            "count of a where ^nope = 99999999999");
    }

    /** "(for one that is too much ...: its own" */
    private static void faultOfOneTooMuch() {
        faults("count,count,count,count, ^min(nope) of a", "sum(((((((((^(1)))))))))) of a",
            "count of a where not not not not not not not not ^not 1 = 1", "sum(1" + times(99, "+1") + "+^nope) of a",
            "count of a [*, *, *^, *]", "count of a by x ^z");
    }

    /** "out of range" */
    private static void faultOutOfRange() {
        faults("count of a [  ^2  , *, *]", "count of a [ 0 : ^2 , *, *]", "count of a [ 1 : ^0 , *, *]",
            "count of c [ ^1 : 0 , *, *]");
    }

    /** "unknown" */
    private static void faultUnknown() {
        faults("count of ^nope", "count of ^nope@1", "sum(^nope) of a", "sum(a + ^nope@1) of a", "count of a where ^nope = 1",
            "count of a where 1 = ^aa");
    }

    /** "of other sizes" */
    private static void faultOfOtherSizes() {
        faults("sum(1 + ^c) of a", "count of a where ^c = 1 by w", "count of a where x = ^c@1", "count of c where null( ^a )",
            "count of a where ^c@2 = 1");
    }

    /** "of a version that is not there its number" */
    private static void faultOfAVersion() {
        faults("count of a @ ^2", "count of a @ ^0 by w", "sum(a @ ^4 + nope) of a", "count of a where b @ ^2 = nope");
    }

    /** "or of the first byte that begins no token" */
    private static void faultOfAByte() {
        faults("^!", "^#count of a", "count ^# of a", "count of a ^# #", "sum(^$) of a", "count of a where x ^! = 1",
            "count of a^\0", "count of a ^A", "count of a ^\u00ff", "count ^a #", "count of a by x ^\"",
            "count of a [0^.1, *, *]");
    }

    /** "(a word or number that is too long or great: its first byte)" */
    private static void faultOfAWordOrNumber() {
        faults("^aaaaaaa", "count of ^aaaaaaa", "count of a ^aaaaaaa", "sum(1 + ^aaaaaaaaaaaaaaaaaaaaaaaaaaaaaaa) of a",
            "sum(^2147483648) of a", "sum(x - ^99999999999999999999) of a", "count of a@^2147483648",
            "count of a [0:^2147483648, *, *]", "count of a ^2147483648");
    }

    /** "or of the end if something is missing" */
    private static void faultOfTheEnd() {
        faults("^", "   ^", "count^", "count   ^", "count,^", "count of^", "sum^", "sum(^", "sum(1^", "sum(1+^", "sum(-^",
            "sum(abs^", "sum(abs(^", "sum((1)^", "sum(1)^", "count of a@^", "count of a [^", "count of a [0^", "count of a [0:^",
            "count of a [0:1,^", "count of a [*,*,*^");
        faults("count of a where^", "count of a where not^", "count of a where (^", "count of a where null^",
            "count of a where null(^", "count of a where null(x^", "count of a where x^", "count of a where x =^",
            "count of a where x = 1 and^", "count of a where x = 1 or^", "count of a where (x = 1^", "count of a by^",
            "count of a by ^");
    }

    /** A text that is cut behind any of its tokens lacks something, but where it is a query. */
    private static void everyPrefix() {
        String[] tokens = {"count", ",", "sum", "(", "-", "it", "*", "b", "@", "1", "+", "abs", "(", "x", ")", ")", "of", "a",
            "@", "1", "[", "0", ":", "1", ",", "*", ",", "1", "]", "where", "not", "(", "null", "(", "it", ")", "or", "z", ">",
            "1", ")", "and", "y", "!=", "2", "by", "y"};
        ArrayVault vault = Scene.ready();
        String text = "";
        for (int n = 0; n < tokens.length; n++) {
            text += tokens[n] + " ";
            boolean whole = n == 17 || n == 19 || n == 28 || n == 40 || n == 44 || n == 46;
            CHECKS.due("'" + text + "'", Checks.ask(vault, text), whole ? ArrayVault.NONE : text.length());
        }
        CHECKS.rows(vault, text, Checks.row(0, 2, -10303), Checks.row(1, 2, -12563), Checks.row(2, 0, 0));
    }
}
