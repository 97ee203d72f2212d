/** Promises 1, 4 to 7, 12 and 16. */
final class ArraysTest {
    private static final Checks CHECKS = new Checks("ArraysTest");

    public static void main(String[] args) {
        newObject();
        makeNames();
        makeSizes();
        makeOrder();
        set();
        fill();
        fillEdges();
        wipe();
        get();
        count();
        CHECKS.close();
    }

    private static void newObject() {
        ArrayVault vault = new ArrayVault();
        CHECKS.due("REFUSED", ArrayVault.REFUSED, -1);
        CHECKS.due("NONE", ArrayVault.NONE, -2);
        CHECKS.due("FULL", ArrayVault.FULL, -3);
        CHECKS.due("THERE", ArrayVault.THERE, -4);
        for (int what = 0; what <= 5; what++) {
            CHECKS.due("new: count(" + what + ")", vault.count(what), 0);
        }
        CHECKS.due("new: rows", vault.rows(), 0);
        CHECKS.due("new: cell", vault.cell(0, 0), Checks.NO_ANSWER);
        CHECKS.due("new: get", vault.get(0, 0, 0, 0, 0), Checks.NO_CELL);
        CHECKS.due("new: differ", vault.differ(0, 0), 0);
        CHECKS.due("new: open", vault.open(1), ArrayVault.NONE);
        CHECKS.due("new: set", vault.set(0, 0, 0, 0, 0), ArrayVault.NONE);
    }

    private static void makeNames() {
        String[] reserved = {"of", "where", "by", "count", "sum", "min", "max", "first", "and", "or", "not", "null",
            "it", "x", "y", "z", "abs"};
        ArrayVault vault = new ArrayVault();
        for (String word : reserved) {
            CHECKS.due("make " + word, Checks.make(vault, word, 1, 1, 1), ArrayVault.REFUSED);
        }
        String[] wrong = {"", " ", "a ", " a", "a b", "A", "a1", "1", "a,", "a\0", "abcdefg", "\u00e9", "a{", "`"};
        for (String word : wrong) {
            CHECKS.due("make '" + word + "'", Checks.make(vault, word, 1, 1, 1), ArrayVault.REFUSED);
        }
        String[] right = {"abcdef", "a", "aa", "zzzzzz", "xy", "ofx"};
        for (int i = 0; i < right.length; i++) {
            CHECKS.due("make " + right[i], Checks.make(vault, right[i], 1, 1, 1), i);
        }
        for (String word : right) {
            CHECKS.tells(vault, "count of " + word, 1);
        }
    }

    private static void makeSizes() {
        int[][] wrong = {{0, 1, 1}, {1, 0, 1}, {1, 1, 0}, {25, 1, 1}, {1, 25, 1}, {1, 1, 25}, {-1, 1, 1}, {-1, -1, 1},
            {23, 11, 8}, {24, 24, 24}, {3, 23, 24 + 5}, {1 << 16, 1 << 16, 1}, {Integer.MIN_VALUE, 2, 1},
            {Integer.MAX_VALUE, 1, 1}, {24, 21, 4}};
        ArrayVault vault = new ArrayVault();
        for (int[] s : wrong) {
            CHECKS.due("make " + s[0] + " " + s[1] + " " + s[2], Checks.make(vault, "a", s[0], s[1], s[2]),
                ArrayVault.REFUSED);
        }
        CHECKS.due("nothing was made", vault.count(0), 0);
        CHECKS.due("make 2000", Checks.make(vault, "a", 20, 20, 5), 0);
        CHECKS.due("make 24 24 3", Checks.make(vault, "b", 24, 24, 3), 1);
        CHECKS.due("make 1 1 24", Checks.make(vault, "c", 1, 1, 24), 2);
        CHECKS.due("cells", vault.count(3), 2000 + 1728 + 24);
        CHECKS.due("all NULL", vault.count(4), 0);
    }

    private static void makeOrder() {
        ArrayVault vault = new ArrayVault();
        String[] names = {"a", "b", "c", "d", "e", "f"};
        for (int i = 0; i < names.length; i++) {
            CHECKS.due("make " + names[i], Checks.make(vault, names[i], 2, 2, 2), i);
        }
        CHECKS.due("full", Checks.make(vault, "g", 2, 2, 2), ArrayVault.FULL);
        CHECKS.due("there before full", Checks.make(vault, "f", 2, 2, 2), ArrayVault.THERE);
        CHECKS.due("refused sizes before there", Checks.make(vault, "f", 2, 25, 2), ArrayVault.REFUSED);
        CHECKS.due("refused sizes before full", Checks.make(vault, "g", 2, 25, 2), ArrayVault.REFUSED);
        CHECKS.due("refused name before full", Checks.make(vault, "it", 2, 2, 2), ArrayVault.REFUSED);
        CHECKS.due("six", vault.count(0), 6);
        CHECKS.due("there is no seventh", vault.set(6, 0, 0, 0, 0), ArrayVault.NONE);
        CHECKS.due("there is a sixth", vault.set(5, 1, 1, 1, 0), 0);
    }

    private static void set() {
        ArrayVault vault = new ArrayVault();
        Checks.make(vault, "a", 2, 3, 4);
        CHECKS.due("set", vault.set(0, 1, 2, 3, 7), 0);
        CHECKS.due("set a second time", vault.set(0, 1, 2, 3, Integer.MAX_VALUE), 0);
        CHECKS.due("it is there", vault.get(0, 1, 2, 3, 0), Integer.MAX_VALUE);
        CHECKS.due("set 0 is not NULL", vault.set(0, 0, 0, 0, 0), 0);
        CHECKS.due("two are there", vault.count(4), 2);
        int[][] wrong = {{1, 0, 0, 0}, {-1, 0, 0, 0}, {6, 0, 0, 0}, {0, 2, 0, 0}, {0, 0, 3, 0}, {0, 0, 0, 4},
            {0, -1, 0, 0}, {0, 0, -1, 0}, {0, 0, 0, -1}, {Integer.MAX_VALUE, 0, 0, 0}, {0, Integer.MIN_VALUE, 0, 0}};
        for (int[] w : wrong) {
            CHECKS.due("set wrong", vault.set(w[0], w[1], w[2], w[3], 5), ArrayVault.NONE);
            CHECKS.due("get wrong", vault.get(w[0], w[1], w[2], w[3], 0), Checks.NO_CELL);
        }
        CHECKS.due("nothing else is there", vault.count(4), 2);
    }

    private static void fill() {
        ArrayVault vault = new ArrayVault();
        Checks.make(vault, "a", 4, 5, 6);
        CHECKS.due("fill", vault.fill(0, Checks.at(1, 2, 3), Checks.at(2, 4, 5), 1000, 100, 10, 1), 2 * 3 * 3);
        for (int x = 0; x < 4; x++) {
            for (int y = 0; y < 5; y++) {
                for (int z = 0; z < 6; z++) {
                    boolean in = x >= 1 && x <= 2 && y >= 2 && y <= 4 && z >= 3;
                    CHECKS.due("filled " + x + y + z, vault.get(0, x, y, z, 0),
                        in ? 1000 + 100 * x + 10 * y + z : Checks.NULL_CELL);
                }
            }
        }
        CHECKS.due("fill one", vault.fill(0, Checks.at(3, 4, 5), Checks.at(3, 4, 5), 0, -1, 0, 0), 1);
        CHECKS.due("one", vault.get(0, 3, 4, 5, 0), -3);
        CHECKS.due("fill wraps", vault.fill(0, Checks.at(2, 0, 0), Checks.at(2, 0, 0), Integer.MAX_VALUE, 1, 9, 9), 1);
        CHECKS.due("wrapped", vault.get(0, 2, 0, 0, 0), Integer.MIN_VALUE + 1);
        CHECKS.due("fill wraps a product", vault.fill(0, Checks.at(3, 0, 0), Checks.at(3, 0, 0), 0, 1 << 30, 0, 0), 1);
        CHECKS.due("wrapped product", vault.get(0, 3, 0, 0, 0), 3 * (1 << 30));
        CHECKS.due("fill all", vault.fill(0, 0, Checks.at(3, 4, 5), 0, 0, 0, 0), 120);
        CHECKS.due("all are there", vault.count(4), 120);
    }

    private static void fillEdges() {
        ArrayVault vault = new ArrayVault();
        Checks.make(vault, "a", 4, 5, 6);
        int last = Checks.at(3, 4, 5);
        int[][] wrong = {{1, 0, 0}, {-1, 0, 0}, {0, -1, 0}, {0, 0, -1}, {0, 32768, last}, {0, 0, 32768}, {0, 32768, 32768}, {0, 0, 32768 + last},
            {0, 0, Checks.at(4, 0, 0)}, {0, 0, Checks.at(0, 5, 0)}, {0, 0, Checks.at(0, 0, 6)},
            {0, Checks.at(1, 0, 0), Checks.at(0, 4, 5)}, {0, Checks.at(0, 1, 0), Checks.at(3, 0, 5)},
            {0, Checks.at(0, 0, 1), Checks.at(3, 4, 0)}, {0, Checks.at(4, 0, 0), last}, {0, Integer.MIN_VALUE, last},
            {0, 0, Integer.MAX_VALUE}, {0, Integer.MIN_VALUE + 1, last}};
        for (int[] w : wrong) {
            CHECKS.due("fill wrong " + w[1] + " " + w[2], vault.fill(w[0], w[1], w[2], 1, 0, 0, 0), ArrayVault.NONE);
            CHECKS.due("wipe wrong " + w[1] + " " + w[2], vault.wipe(w[0], w[1], w[2]), ArrayVault.NONE);
        }
        CHECKS.due("nothing was filled", vault.count(4), 0);
    }

    private static void wipe() {
        ArrayVault vault = new ArrayVault();
        Checks.make(vault, "a", 3, 3, 3);
        CHECKS.due("wipe of NULL", vault.wipe(0, 0, Checks.at(2, 2, 2)), 0);
        vault.fill(0, 0, Checks.at(1, 1, 1), 0, 0, 0, 0);
        CHECKS.due("wipe counts what was there", vault.wipe(0, Checks.at(1, 0, 0), Checks.at(2, 2, 2)), 4);
        CHECKS.due("wiped", vault.get(0, 1, 1, 1, 0), Checks.NULL_CELL);
        CHECKS.due("kept", vault.get(0, 0, 1, 1, 0), 0);
        CHECKS.due("four are left", vault.count(4), 4);
    }

    private static void get() {
        ArrayVault vault = new ArrayVault();
        Checks.make(vault, "a", 2, 2, 2);
        CHECKS.due("NULL at first", vault.get(0, 1, 1, 1, 0), Checks.NULL_CELL);
        vault.set(0, 1, 1, 1, Integer.MIN_VALUE);
        vault.commit();
        vault.set(0, 1, 1, 1, 5);
        CHECKS.due("of the work", vault.get(0, 1, 1, 1, 0), 5);
        CHECKS.due("of a version", vault.get(0, 1, 1, 1, 1), Integer.MIN_VALUE);
        CHECKS.due("NULL of a version", vault.get(0, 0, 1, 1, 1), Checks.NULL_CELL);
        CHECKS.due("of no version", vault.get(0, 1, 1, 1, 2), Checks.NO_CELL);
        CHECKS.due("of a version below 0", vault.get(0, 1, 1, 1, -1), Checks.NO_CELL);
        CHECKS.due("no place in a version", vault.get(0, 1, 2, 1, 1), Checks.NO_CELL);
        vault.drop(1);
        CHECKS.due("of a dropped version", vault.get(0, 1, 1, 1, 1), Checks.NO_CELL);
    }

    private static void count() {
        ArrayVault vault = new ArrayVault();
        Checks.make(vault, "a", 2, 3, 4);
        Checks.make(vault, "b", 5, 1, 1);
        vault.fill(1, 0, Checks.at(4, 0, 0), 0, 0, 0, 0);
        vault.set(0, 0, 0, 0, 1);
        vault.commit();
        vault.commit();
        vault.drop(2);
        CHECKS.due("arrays", vault.count(0), 2);
        CHECKS.due("versions", vault.count(1), 1);
        CHECKS.due("greatest", vault.count(2), 2);
        CHECKS.due("cells", vault.count(3), 29);
        CHECKS.due("of the work", vault.count(4), 6);
        CHECKS.due("no columns before a query", vault.count(5), 0);
        Checks.ask(vault, "count of");
        CHECKS.due("no columns of a fault", vault.count(5), 0);
        Checks.ask(vault, "count, count of a");
        CHECKS.due("columns", vault.count(5), 3);
        for (int what : new int[] {-1, 6, 7, Integer.MIN_VALUE, Integer.MAX_VALUE}) {
            CHECKS.due("count(" + what + ")", vault.count(what), ArrayVault.REFUSED);
        }
    }
}
