import java.util.Arrays;

/** The edges of THE TAPE, TOKENS and NAMES in the document's Terms, and of promises 2 and 3: one method for each sentence. */
final class TapeEdgesTest {
    private static final Checks CHECKS = new Checks("TapeEdgesTest");
    private static final String[] RESERVED = {"of", "where", "by", "count", "sum", "min", "max", "first", "and", "or", "not",
        "null", "it", "x", "y", "z", "abs"};

    public static void main(String[] args) {
        noneAtFirst();
        atMost600();
        fullFrom581();
        allBytesAreRead();
        eachByteAToken();
        highestByteFirst();
        endRefusesMoreThanThereIs();
        endRefusesBelowZero();
        endCutsToTheFirst();
        readersEmptyIt();
        othersLeaveIt();
        tokensAreAsLongAsCanBe();
        blanksWhereOneLikes();
        otherBytesAreNoBlanks();
        wordsOfAtMostSix();
        numbersBelowTwoToThe31();
        signs();
        bytesThatBeginNoToken();
        namesAreNoReservedWords();
        namesBesideReservedWords();
        CHECKS.close();
    }

    /** "none at first" */
    private static void noneAtFirst() {
        CHECKS.tapeHas("a new object", new ArrayVault(), 0);
        CHECKS.due("make without a tape", new ArrayVault().make(1, 1, 1), ArrayVault.REFUSED);
        CHECKS.due("query without a tape", new ArrayVault().query(), 0);
        CHECKS.due("the first feed", new ArrayVault().feed(0, 0, 0, 0, 0), 20);
    }

    /** "at most 600"; "FULL if it would have more than 600" */
    private static void atMost600() {
        ArrayVault vault = Scene.ready();
        for (int i = 1; i <= 29; i++) {
            CHECKS.due("feed " + i, vault.feed(0x20202020, 0x20202020, 0x20202020, 0x20202020, 0x20202020), 20L * i);
        }
        CHECKS.due("the last that is taken", vault.feed(0x20202020, 0x636f756e, 0x74206f66, 0x20612062, 0x79207a20), 600);
        State before = State.of(vault);
        CHECKS.due("the first that is refused", vault.feed(-1, -1, -1, -1, -1), ArrayVault.FULL);
        CHECKS.due("refused again", vault.feed(0x20202020, 0, 0, 0, 0), ArrayVault.FULL);
        CHECKS.unchanged("feed that is refused", vault, before);
        CHECKS.tapeHas("feed that is refused", vault, 600);
        CHECKS.due("the text stays", vault.query(), ArrayVault.NONE);
        CHECKS.due("as it was", vault.rows(), 2);
    }

    /** The same where the tape is no full number of feeds. */
    private static void fullFrom581() {
        ArrayVault vault = new ArrayVault();
        for (int i = 0; i < 30; i++) {
            vault.feed(0, 0, 0, 0, 0);
        }
        for (int n : new int[] {599, 590, 582, 581}) {
            vault.end(n);
            CHECKS.due("feed behind " + n, vault.feed(0, 0, 0, 0, 0), ArrayVault.FULL);
            CHECKS.tapeHas("feed behind " + n, vault, n);
        }
        vault.end(580);
        CHECKS.due("feed behind 580", vault.feed(0, 0, 0, 0, 0), 600);
        vault.end(579);
        CHECKS.due("feed behind 579", vault.feed(0, 0, 0, 0, 0), 599);
    }

    /** The last of 600 bytes belongs to the text. */
    private static void allBytesAreRead() {
        ArrayVault vault = Scene.ready();
        CHECKS.due("y", Checks.ask(vault, "count of a by" + " ".repeat(586) + "y"), ArrayVault.NONE);
        CHECKS.due("rows by y", vault.rows(), 3);
        CHECKS.fault(vault, "count of a by" + " ".repeat(586) + "^w");
        CHECKS.fault(vault, "count of a by" + " ".repeat(587) + "^");
        CHECKS.fault(vault, " ".repeat(599) + "^#");
    }

    /** No text has more tokens than a full tape of signs. */
    private static void eachByteAToken() {
        for (int length : new int[] {598, 599, 600}) {
            ArrayVault vault = Scene.one();
            CHECKS.fault(vault, "^" + "(".repeat(length));
            CHECKS.fault(vault, "sum(" + "(".repeat(8) + "^" + "(".repeat(length - 12));
            CHECKS.fault(vault, "^" + ",".repeat(length - 1) + "#");
            CHECKS.due("make", Checks.make(vault, "(".repeat(length), 1, 1, 1), ArrayVault.REFUSED);
            CHECKS.tells(vault, "count of a", 1);
        }
    }

    /** "Twenty bytes, five times four, the highest of each first" */
    private static void highestByteFirst() {
        ArrayVault vault = new ArrayVault();
        Checks.make(vault, "ab", 1, 1, 1);
        CHECKS.due("feed", vault.feed(0x73756d28, 0x31323334, 0x35363738, 0x3930296f, 0x66206162), 20);
        CHECKS.due("sum(1234567890)of ab", vault.query(), ArrayVault.NONE);
        CHECKS.due("its digits in order", vault.cell(0, 1), 1234567890);
        for (int i = 0; i < 20; i++) {
            int[] n = {0x20202020, 0x20202020, 0x20202020, 0x20202020, 0x20202020};
            n[i / 4] = n[i / 4] & ~(255 << 24 - 8 * (i % 4)) | 0xe1 << 24 - 8 * (i % 4);
            ArrayVault high = new ArrayVault();
            high.feed(n[0], n[1], n[2], n[3], n[4]);
            CHECKS.due("the place of byte " + i, high.query(), i);
        }
    }

    /** "REFUSED if it has less" */
    private static void endRefusesMoreThanThereIs() {
        ArrayVault vault = Scene.ready();
        State before = State.of(vault);
        CHECKS.due("more than none", vault.end(1), ArrayVault.REFUSED);
        CHECKS.due("none of none", vault.end(0), 0);
        vault.feed(0x636f756e, 0x74206f66, 0x20612062, 0x79207a20, 0x20202020);
        CHECKS.due("one more", vault.end(21), ArrayVault.REFUSED);
        CHECKS.due("600", vault.end(600), ArrayVault.REFUSED);
        CHECKS.due("the greatest", vault.end(Integer.MAX_VALUE), ArrayVault.REFUSED);
        CHECKS.due("all", vault.end(20), 20);
        CHECKS.unchanged("end that is refused", vault, before);
        CHECKS.due("the text stays", vault.query(), ArrayVault.NONE);
    }

    /** "or n is below 0" */
    private static void endRefusesBelowZero() {
        ArrayVault vault = Scene.ready();
        State before = State.of(vault);
        CHECKS.due("-1 of none", vault.end(-1), ArrayVault.REFUSED);
        vault.feed(0x636f756e, 0x74206f66, 0x20612062, 0x79207a20, 0x20202020);
        CHECKS.due("-1", vault.end(-1), ArrayVault.REFUSED);
        CHECKS.due("-20", vault.end(-20), ArrayVault.REFUSED);
        CHECKS.due("the least", vault.end(Integer.MIN_VALUE), ArrayVault.REFUSED);
        CHECKS.tapeHas("end below 0", vault, 20);
        CHECKS.unchanged("end below 0", vault, before);
        CHECKS.due("the text stays", vault.query(), ArrayVault.NONE);
        Checks.write(vault, "count");
        CHECKS.due("0 is not below", vault.end(0), 0);
        CHECKS.due("nothing is left", vault.query(), 0);
    }

    /** "cut to its first n bytes: n" */
    private static void endCutsToTheFirst() {
        ArrayVault vault = Scene.ready();
        Checks.write(vault, "count of a by x#");
        CHECKS.due("cut by one", vault.end(15), 15);
        CHECKS.tapeHas("cut by one", vault, 15);
        CHECKS.due("what is left", vault.query(), ArrayVault.NONE);
        Checks.write(vault, "count of");
        vault.end(5);
        vault.feed(0x206f6620, 0x61202020, 0x20202020, 0x20202020, 0x20202020);
        CHECKS.tapeHas("feed behind the cut", vault, 25);
        CHECKS.due("one text", vault.query(), ArrayVault.NONE);
    }

    /** "calls that read it empty it"; "the TAPE is empty in all these cases" */
    private static void readersEmptyIt() {
        ArrayVault vault = new ArrayVault();
        String[] names = {"a", "b", "c", "d", "e", "f"};
        for (int i = 0; i < names.length; i++) {
            CHECKS.due("make", Checks.make(vault, names[i], 1, 1, 1), i);
            CHECKS.tapeHas("make", vault, 0);
        }
        CHECKS.due("make", Checks.make(vault, "g", 1, 1, 1), ArrayVault.FULL);
        CHECKS.tapeHas("FULL", vault, 0);
        CHECKS.due("make", Checks.make(vault, "a", 1, 1, 1), ArrayVault.THERE);
        CHECKS.tapeHas("THERE", vault, 0);
        CHECKS.due("make", Checks.make(vault, "g", 0, 1, 1), ArrayVault.REFUSED);
        CHECKS.tapeHas("REFUSED sizes", vault, 0);
        CHECKS.due("make", Checks.make(vault, "it", 1, 1, 1), ArrayVault.REFUSED);
        CHECKS.tapeHas("REFUSED name", vault, 0);
        CHECKS.due("make", Checks.make(vault, "#", 1, 1, 1), ArrayVault.REFUSED);
        CHECKS.tapeHas("REFUSED byte", vault, 0);
        CHECKS.due("query", Checks.ask(vault, "count of a"), ArrayVault.NONE);
        CHECKS.tapeHas("query", vault, 0);
        CHECKS.fault(vault, "count of ^g");
        CHECKS.tapeHas("query with a fault", vault, 0);
        CHECKS.fault(vault, "count of a ^#");
        CHECKS.tapeHas("query with a bad byte", vault, 0);
        CHECKS.due("feed begins anew", vault.feed(0, 0, 0, 0, 0), 20);
    }

    /** All others, taken or refused, leave the tape. */
    private static void othersLeaveIt() {
        ArrayVault vault = Scene.ready();
        Checks.write(vault, "count of a by y");
        int last = Checks.at(1, 2, 1);
        long[] answers = {vault.set(0, 0, 0, 0, 1), vault.set(9, 0, 0, 0, 1), vault.fill(0, 0, last, 1, 0, 0, 0),
            vault.fill(0, last, 0, 1, 0, 0, 0), vault.wipe(0, 0, last), vault.wipe(0, last, 0), vault.commit(), vault.open(1),
            vault.open(0), vault.differ(0, 1), vault.differ(0, 9), vault.get(0, 0, 0, 0, 0), vault.get(9, 0, 0, 0, 0),
            vault.drop(1), vault.drop(1), vault.rows(), vault.cell(0, 0), vault.cell(9, 9), vault.count(0), vault.count(9)};
        CHECKS.due("calls", answers.length, 20);
        CHECKS.tapeHas("calls that read no tape", vault, 15);
        CHECKS.due("the text stays", vault.query(), ArrayVault.NONE);
        CHECKS.due("as it was", vault.rows(), 3);
    }

    /** "each as long as can be" */
    private static void tokensAreAsLongAsCanBe() {
        ArrayVault vault = Scene.ready();
        CHECKS.fault(vault, "sum(^xy) of a");
        CHECKS.fault(vault, "sum(x ^y) of a");
        CHECKS.fault(vault, "count ^ofa");
        CHECKS.fault(vault, "count of a ^wherex = 1");
        CHECKS.fault(vault, "count of a by ^xx");
        CHECKS.fault(vault, "^sumit of a");
        CHECKS.tells(vault, "sum(12) of a [0, 0, 0]", 12);
        CHECKS.fault(vault, "sum(1 ^2) of a");
        CHECKS.tells(vault, "count of a where x<=0", 6);
        CHECKS.fault(vault, "count of a where x< ^=0");
        CHECKS.tells(vault, "count of a where x>=0", 12);
        CHECKS.fault(vault, "count of a where x> ^=0");
        CHECKS.tells(vault, "count of a where x!=0", 6);
        CHECKS.fault(vault, "count of a where x^! =0");
        CHECKS.fault(vault, "count of a where x=^!0");
        CHECKS.fault(vault, "count of a where x=^<0");
        CHECKS.tells(vault, "count of a where 1=1and 2=2", 12);
    }

    /** "with blanks (32) between where one likes" */
    private static void blanksWhereOneLikes() {
        ArrayVault vault = Scene.ready();
        CHECKS.rows(vault, "count,max(it)of a@1[1,0:1,*]where it>100and not it=110by y", Checks.row(0, 1, 101),
            Checks.row(1, 1, 111));
        CHECKS.rows(vault,
            "  count  ,  max  (  it  )  of  a  @  1  [  1  ,  0  :  1  ,  *  ]  where  it  >  100  and  not  it  =  110  by  y  ",
            Checks.row(0, 1, 101), Checks.row(1, 1, 111));
        CHECKS.fault(vault, "^cou nt of a");
        CHECKS.fault(vault, "count of a where x ^! = 0");
        CHECKS.fault(vault, "     ^,");
    }

    private static void otherBytesAreNoBlanks() {
        for (char b : new char[] {0, 9, 10, 11, 12, 13, 31, 127, 160}) {
            ArrayVault vault = Scene.one();
            CHECKS.fault(vault, "count of a^" + b);
            CHECKS.fault(vault, "^" + b + "count of a");
            CHECKS.fault(vault, "count^" + b + "of a");
        }
    }

    /** "WORD: small letters, at most 6" */
    private static void wordsOfAtMostSix() {
        ArrayVault vault = new ArrayVault();
        CHECKS.due("six letters", Checks.make(vault, "azbycx", 1, 1, 1), 0);
        CHECKS.due("seven letters", Checks.make(vault, "azbycxd", 1, 1, 1), ArrayVault.REFUSED);
        CHECKS.due("one letter", Checks.make(vault, "m", 1, 1, 1), 1);
        CHECKS.tells(vault, "count of azbycx", 1);
        CHECKS.fault(vault, "count of ^azbycxd");
        CHECKS.fault(vault, "count of ^azbycy");
        CHECKS.fault(vault, "count of ^azbyc");
        CHECKS.fault(vault, "count of azbycx ^d");
        CHECKS.fault(vault, "count of m ^wherem = 1");
        CHECKS.fault(vault, "count of m ^whereit = 1");
        CHECKS.fault(vault, "sum(it + ^mmmmmmm) of m");
        CHECKS.fault(vault, "count of ^M");
        CHECKS.fault(vault, "count of m^M");
        for (String name : new String[] {"A", "Z", "aB", "`", "a`", "{", "a{", "a1", "1a", "a_", "\u00e1", "\u00fa"}) {
            CHECKS.due("make " + name, Checks.make(vault, name, 1, 1, 1), ArrayVault.REFUSED);
        }
        CHECKS.due("none of them was made", vault.count(0), 2);
    }

    /** "NUMBER: digits, at most 2^31 - 1" */
    private static void numbersBelowTwoToThe31() {
        ArrayVault vault = Scene.one();
        CHECKS.tells(vault, "sum(2147483647) of a", 2147483647L);
        CHECKS.fault(vault, "sum(^2147483648) of a");
        CHECKS.tells(vault, "sum(0) of a", 0);
        CHECKS.tells(vault, "sum(0000000000000000000002147483647) of a", 2147483647L);
        CHECKS.fault(vault, "sum(^0000000000000000000002147483648) of a");
        CHECKS.tells(vault, "sum(0123456789) of a", 123456789);
        CHECKS.fault(vault, "sum(^4294967297) of a");
        CHECKS.fault(vault, "sum(^18446744073709551617) of a");
        CHECKS.fault(vault, "sum(^9223372036854775808) of a");
        CHECKS.fault(vault, "sum(1 + ^99999999999999999999999999999999999999) of a");
        CHECKS.fault(vault, "count of a@^2147483647");
        CHECKS.fault(vault, "count of a@^2147483648");
        CHECKS.fault(vault, "count of a@^4294967296");
        CHECKS.fault(vault, "count of a [^2147483647, *, *]");
        CHECKS.fault(vault, "count of a [^2147483648, *, *]");
        CHECKS.fault(vault, "count of a [0:^4294967296, *, *]");
        CHECKS.fault(vault, "sum(1^.5) of a");
        CHECKS.fault(vault, "sum(1^e5) of a");
    }

    /** "the signs ( ) [ ] , : @ * + - / % = != < <= > >=": each of them is one. */
    private static void signs() {
        ArrayVault vault = Scene.ready();
        CHECKS.rows(vault, "count, sum((it)) of b@1 [0:1, *, 0]", Checks.row(0, 6, 366));
        CHECKS.tells(vault, "sum(7 + 5) of c [0, 0, 0]", 12);
        CHECKS.tells(vault, "sum(7 - 5) of c [0, 0, 0]", 2);
        CHECKS.tells(vault, "sum(7 * 5) of c [0, 0, 0]", 35);
        CHECKS.tells(vault, "sum(7 / 5) of c [0, 0, 0]", 1);
        CHECKS.tells(vault, "sum(7 % 5) of c [0, 0, 0]", 2);
        String[] signs = {"=", "!=", "<", "<=", ">", ">="};
        int[] counts = {2, 4, 2, 4, 2, 4};
        for (int i = 0; i < signs.length; i++) {
            CHECKS.tells(vault, "count of c where y " + signs[i] + " 1", counts[i]);
        }
        CHECKS.fault(vault, "count of c where y ^! 1");
        CHECKS.fault(vault, "count of c where y =^= 1");
        CHECKS.fault(vault, "count of c where y <^> 1");
    }

    /** "the first byte that begins no token": behind an array name and where a FACTOR is due, each of the 256. */
    private static void bytesThatBeginNoToken() {
        for (char b = 0; b < 256; b++) {
            ArrayVault vault = Scene.one();
            int due = b == ' ' ? ArrayVault.NONE : b == '[' || b == '@' ? 12 : 11;
            CHECKS.due("byte " + (int) b + " behind an array", Checks.ask(vault, "count of a " + b), due);
            boolean factor = b == ' ' || b == '(' || b == '-' || b >= '0' && b <= '9' || b == 'a' || b >= 'x' && b <= 'z';
            CHECKS.due("byte " + (int) b + " as a factor", Checks.ask(vault, "sum(" + b), factor ? 5 : 4);
        }
    }

    /** "words but of where by count sum min max first and or not null it x y z abs" */
    private static void namesAreNoReservedWords() {
        ArrayVault vault = Scene.one();
        for (String word : RESERVED) {
            CHECKS.due("make " + word, Checks.make(vault, word, 1, 1, 1), ArrayVault.REFUSED);
            CHECKS.fault(vault, "count of ^" + word);
        }
        CHECKS.due("none of them was made", vault.count(0), 1);
    }

    private static void namesBesideReservedWords() {
        for (String word : RESERVED) {
            String longer = word + "s", shorter = word.length() > 1 ? word.substring(1) : word + word;
            ArrayVault vault = new ArrayVault();
            CHECKS.due("make " + longer, Checks.make(vault, longer, 1, 1, 1), 0);
            CHECKS.tells(vault, "count of " + longer + " where null(" + longer + ")", 1);
            if (!Arrays.asList(RESERVED).contains(shorter)) {
                CHECKS.due("make " + shorter, Checks.make(vault, shorter, 1, 1, 1), 1);
                CHECKS.tells(vault, "count of " + shorter + " where null(" + shorter + ")", 1);
            }
        }
    }
}
