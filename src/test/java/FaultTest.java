/** Promise 13: the FAULT of a query. The mark ^ stands before the token that can not stand there. */
final class FaultTest {
    private static final Checks CHECKS = new Checks("FaultTest");

    public static void main(String[] args) {
        ArrayVault vault = arrays();
        CHECKS.tells(vault, "count of a", 12);
        each(TELLS);
        each(ARRAYS);
        each(BOXES);
        each(EXPRESSIONS);
        each(TESTS);
        each(AXES);
        each(BYTES);
        each(SIZES);
        each(DEPTHS);
        factors();
        fullTape();
        CHECKS.close();
    }

    /** a and b are alike, the others differ from them in all axes or in one; versions 1 and 3 are there, 2 is not. */
    private static ArrayVault arrays() {
        ArrayVault vault = new ArrayVault();
        Checks.make(vault, "a", 2, 3, 2);
        Checks.make(vault, "b", 2, 3, 2);
        Checks.make(vault, "c", 3, 2, 1);
        Checks.make(vault, "cx", 1, 3, 2);
        Checks.make(vault, "cy", 2, 2, 2);
        Checks.make(vault, "cz", 2, 3, 1);
        vault.commit();
        vault.commit();
        vault.commit();
        vault.drop(2);
        return vault;
    }

    private static void each(String[] texts) {
        ArrayVault vault = arrays();
        for (String text : texts) {
            CHECKS.fault(vault, text);
            CHECKS.due("no rows by " + text, vault.rows(), 0);
        }
    }

    private static final String[] TELLS = {"^", "  ^", "^,", "^of a", "^it of a", "^a", "^5", "^(count) of a", "count^",
        "count ^", "count ^count of a", "count ^a", "count,^", "count, ^of a", "count, ^, count of a",
        "count ^(it) of a", "sum^", "sum ^it of a", "sum ^of a", "sum(^", "sum(^) of a", "sum(it^", "sum(it ^of a",
        "sum(it ^it) of a", "sum(it)^", "sum(it) ^+ 1 of a", "min(it), max(it ^, count of a", "first(^sum(it)) of a",
        "count, count, count, count, ^count of a", "count, count, count, count, ^sum(it) of a",
        "count, count, count, count, ^of a", "count, count, count, count,^", "count, count, count, count, ^zzz",
        "^avg(it) of a", "^abs(it) of a", "^null(it) of a"};

    private static final String[] ARRAYS = {"count of^", "count of ^it", "count of ^x", "count of ^d", "count of ^5",
        "count of ^of", "count of ^(a)", "count of a ^b", "count of a ^, b", "count of a ^of a", "count of a@^", "count of a@^a",
        "count of a@^0", "count of a@^2", "count of a@^4", "count of a@^2147483647", "count of a@^-1", "count of a ^1",
        "count of a@1 ^@1", "count of a@3 ^3", "count of a@^[*, *, *]", "sum(a@^2) of a", "sum(a@^0 + d) of a",
        "sum(a@^) of a", "sum(a@1 ^@ 3) of a", "sum(^d) of a", "sum(^d@1) of d", "sum(a ^1) of a",
        "count of a where b@^2 = 1", "count of a where ^d = 1", "count of a where b@^it = 1"};

    private static final String[] BOXES = {"count of a [^", "count of a [^]", "count of a [*^", "count of a [* ^]",
        "count of a [*, *^", "count of a [*, * ^]", "count of a [*, *,^", "count of a [*, *, ^]", "count of a [*, *, *^",
        "count of a [*, *, * ^, *]", "count of a [*, *, *] ^[*, *, *]", "count of a [^2, *, *]", "count of a [*, ^3, *]",
        "count of a [*, *, ^2]", "count of a [0:^2, *, *]", "count of a [*, 0:^3, *]", "count of a [1:^0, *, *]",
        "count of a [*, 2:^1, *]", "count of a [^2:1, *, *]", "count of a [^2147483647, *, *]", "count of a [0:^, *, *]",
        "count of a [0 ^1, *, *]", "count of a [0:1^:1, *, *]", "count of a [^:1, *, *]", "count of a [^-1, *, *]",
        "count of a [0:^*, *, *]", "count of a [*^:1, *, *]", "count of a [^x, *, *]", "count of a [0^+1, *, *]",
        "count of a [* ^* , *]", "count of a [0:^", "count of a [0^", "count of a ^(*, *, *)", "count of a where it = 1 ^[*, *, *]",
        "count of a by x ^[*, *, *]", "count of a ^]"};

    private static final String[] EXPRESSIONS = {"sum(^+ 1) of a", "sum(1 + ^) of a", "sum(1 +^", "sum(1 ^1) of a",
        "sum(1 * ^* 1) of a", "sum(^* 1) of a", "sum(1 + ^+ 1) of a", "sum(-^) of a", "sum(1 - ^/ 1) of a", "sum((1 ^of a",
        "sum((^)) of a", "sum((1)) ^) of a", "sum(abs ^it) of a", "sum(abs(^)) of a", "sum(abs(it)^", "sum(abs^", "sum(abs(^",
        "sum(1 ^= 1) of a", "sum(^null(it)) of a", "sum(^not it) of a", "sum(^count) of a", "sum(it ^and it) of a",
        "sum(it ^, it) of a", "sum(^[it]) of a", "sum(^@1) of a", "sum(it ^@1) of a", "sum(x ^y) of a", "sum(x^@1) of a",
        "sum(it ^(1)) of a", "sum(2 ^(1)) of a", "sum(^where) of a", "sum(^by) of a", "sum((1 + 2^, 3)) of a", "sum(1 ^: 2) of a"};

    private static final String[] TESTS = {"count of a where^", "count of a where ^by x", "count of a where it^",
        "count of a where it ^by x", "count of a where it =^", "count of a where it = ^by x", "count of a where ^= 1",
        "count of a where 1 = 1 ^= 1", "count of a where 1 < 2 ^< 3", "count of a where it = ^= 1", "count of a where it < ^= 1",
        "count of a where (it ^) = 1", "count of a where (it + 1^", "count of a where (1 + 2 ^) = 3",
        "count of a where ((it = 1)^", "count of a where (it = 1 ^by x", "count of a where (it = 1) ^= 1",
        "count of a where (it = 1) ^+ 1 = 2", "count of a where (^)", "count of a where not^",
        "count of a where not ^and it = 1", "count of a where not it ^and it = 1", "count of a where it = 1 and^",
        "count of a where it = 1 or^", "count of a where it = 1 ^not it = 2", "count of a where it = 1 and ^or it = 1",
        "count of a where null ^it", "count of a where null(^", "count of a where null(it^", "count of a where null(^)",
        "count of a where null(it) ^= 1", "count of a where null(it ^= 1)", "count of a where null(^not it)",
        "count of a where 1 = ^null(it)", "count of a where 1 = ^not it", "count of a where it = 1 ^where it = 1",
        "count of a where it = 1 ^, it = 2", "count of a where ^count = 1", "count of a where ^sum(it) = 1",
        "count ^where it = 1 of a", "count of a where abs(it ^= 1)", "count of a where -(it ^= 1)", "count of a where 1 ^",
        "count of a where 1 = (1 ^= 1)", "count of a where it = 1 ^it = 2", "count of a where it ^: 1"};

    private static final String[] AXES = {"count of a by^", "count of a by ^w", "count of a by ^it", "count of a by ^1",
        "count of a by ^a", "count of a by ^by", "count of a by x ^y", "count of a by x ^, y", "count of a by x ^by y",
        "count of a by x ^where it = 1", "count ^by x of a", "count of a by ^(x)", "count of a by x ^of a", "count of a by ^xx"};

    private static final String[] BYTES = {"count of a ^#", "^#", "^\0", "count of a^\0", "count of a ^!", "count of a where it ^! = 1",
        "count of a where it ^!1", "^Count of a", "count of ^A", "count of ^abcdefg", "^countof a", "count of ^aaaaaaaaaaaaaaaaaaaa",
        "sum(^2147483648) of a", "sum(^99999999999999999999) of a", "sum(^00000000002147483648) of a",
        "count of a@^2147483648", "count of a [^4294967296, *, *]", "count of a^\t", "count of a ^\n", "count of a ^\u00ff",
        "count of a ^\u0080", "count of a ^;", "count of a ^.", "sum(1^.5) of a", "sum(1 ^& 1) of a", "sum(it^_) of a",
        "count of a ^{", "count of a ^`", "count ^count #", "count of ^d #", "count of a [0:^5, #", "count of a ^abcdefgh",
        "count of a ^2147483648", "count ^x #", "count of a where it =^> 1", "sum(x ^abcdefg) of a",
        "sum(^xabcdef) of a", "count of a where it >= ^# 1"};

    /** An array of a tell is judged when that of the query is known, but then before what comes behind. */
    private static final String[] SIZES = {"sum(^c) of a", "sum(a + ^c) of a", "sum(b), sum(^c) of a",
        "sum(^c), sum(b) of a@1", "sum(^c@1) of a", "sum(^c) of a by w", "sum(^c) of a #", "sum(^c) of a where", "sum(^c) of a@2",
        "sum(^c) of a@", "sum(^c) of a a", "sum(c) of ^d", "sum(c) of^", "sum(c ^of a", "sum(c@^2) of a", "sum(c) ^a",
        "sum(c), sum(^a) of c", "sum(^a + c) of c", "count of a where ^c = 1", "count of a where ^c@2 = 1", "count of a where ^c",
        "count of c where c = 1 and ^a = 1", "count of a where b = ^c by w", "sum(^a) of c where a = 1", "sum(^cx) of a",
        "sum(^cy) of a", "sum(^cz) of a", "count of a where ^cx = 1", "count of a where ^cy = 1", "count of a where ^cz = 1"};

    private static final String[] DEPTHS = {"sum(((((((((^(it)))))))))) of a", "sum(--------^-it) of a",
        "sum(1 - --------^-it) of a", "sum(-(-(-(-(^-it)))) of a", "sum(-(-(-(-(^(it)))))) of a",
        "sum(abs(abs(abs(abs(abs(abs(abs(abs(abs^(it))))))))) of a", "sum((((((((abs(abs^(it))))))))) of a",
        "sum(((((((((it))))))))), sum(((((((((^(it) of a", "count of a where not not not not not not not not ^not it = 1",
        "count of a where not not not not not not not not ^(it = 1)", "count of a where not not not not not not not not null^(it)",
        "count of a where not not not not not not not not ^-it = 1", "count of a where not not not not not not not not it = ^-1",
        "count of a where not not not not not not not not abs^(it) = 1", "count of a where ((((((((^(it = 1)))))))))",
        "count of a where ((((((((null^(it)))))))))", "count of a where (not (null(-(-(^-it)))))",
        "count of a where ((((((((1 = 1 or ^(1 = 1)))))))))", "count of a where ((((((((1 = 1)))))))) and ((((((((^(1 = 1",
        "count of a where ((((((((^not it = 1))))))))"};

    private static void factors() {
        ArrayVault vault = arrays();
        CHECKS.due("100 numbers", Checks.ask(vault, "sum(1" + "+1".repeat(99) + ") of a"), ArrayVault.NONE);
        CHECKS.fault(vault, "sum(1" + "+1".repeat(99) + "+^1) of a");
        CHECKS.fault(vault, "sum(1" + "+1".repeat(99) + "+^a@2) of a");
        CHECKS.fault(vault, "sum(1" + "+1".repeat(99) + "+^x) of a");
        CHECKS.fault(vault, "sum(1" + "+1".repeat(99) + "+abs(-(-^it))) of a");
        CHECKS.fault(vault, "sum(1" + "+1".repeat(99) + ") of a where ^1 = 1");
        CHECKS.fault(vault, "sum(it" + "*it".repeat(49) + "), max(x" + "*x".repeat(49) + "), min(^y) of a");
        CHECKS.fault(vault, "sum(1" + "+1".repeat(98) + ") of a where -(1) = ^1");
        CHECKS.due("brackets do not count", Checks.ask(vault, "sum((1)" + "+(1)".repeat(49) + "-abs(-(1))) of a"), ArrayVault.NONE);
        CHECKS.due("100 with the test", Checks.ask(vault, "sum(1" + "+1".repeat(97) + ") of a [0:1, 0, 0] where -(1) = 1"),
            ArrayVault.NONE);
        CHECKS.due("ranges and arrays do not count", Checks.ask(vault, "sum(a@1" + "+a@1".repeat(99) + ") of a@1 [0:1, 0:1, 0]"),
            ArrayVault.NONE);
        CHECKS.due("each query counts anew", Checks.ask(vault, "sum(1" + "+1".repeat(99) + ") of a"), ArrayVault.NONE);
    }

    /** As many tokens as there are bytes. */
    private static void fullTape() {
        ArrayVault vault = arrays();
        CHECKS.fault(vault, "^" + "(".repeat(600));
        CHECKS.fault(vault, "sum((((((((" + "(^(" + "(".repeat(587));
        CHECKS.fault(vault, "^" + "a".repeat(600));
        CHECKS.fault(vault, "sum(^" + "9".repeat(596));
        CHECKS.fault(vault, "sum(" + "0".repeat(596) + "^");
        CHECKS.fault(vault, " ".repeat(600) + "^");
        CHECKS.fault(vault, "sum(1" + "+1".repeat(99) + "+^1" + "+1".repeat(195));
        CHECKS.fault(vault, "count of a where 1=1" + " and 1=1".repeat(49) + " and ^1=1" + " and 1=1".repeat(10));
    }
}
