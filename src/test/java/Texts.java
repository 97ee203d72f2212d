import java.util.Random;
import java.util.function.IntSupplier;

/** Texts for the tape, from a source of numbers that the test has fixed: queries, queries with a slip, and no queries. */
final class Texts {
    static final String[] NAMES = {"a", "b", "c", "grid", "abcdef", "xx", "d", "e"};
    private static final String[] SCRAPS = {"(", ")", "[", "]", ",", ":", "@", "*", "+", "-", "/", "%", "=", "!=", "<", "<=", ">",
        ">=", "of", "where", "by", "count", "sum", "min", "max", "first", "and", "or", "not", "null", "it", "x", "y", "z",
        "abs", "a", "b", "nope", "1", "2147483647", "2147483648", "abcdefg", "!", "#", " ", "0", "5", "\0", "A", "\u00e1"};

    private final Random random;
    private final IntSupplier version;

    /** The versions that the texts name are those that the supplier tells. */
    Texts(Random random, IntSupplier version) {
        this.random = random;
        this.version = version;
    }

    private int below(int n) {
        return random.nextInt(n);
    }

    String one(String... of) {
        return of[below(of.length)];
    }

    /** Words and signs, some of which begin as a query does. */
    String soup(int size) {
        StringBuilder text = new StringBuilder(one("", "", "count of a ", "sum(", "count of a where ", "count of a ["));
        for (int i = 0; i < size; i++) {
            text.append(one(SCRAPS)).append(one("", " "));
        }
        return text.toString();
    }

    /** Any bytes at all. */
    String noise(int size) {
        StringBuilder text = new StringBuilder();
        for (int i = 0; i < size; i++) {
            text.append((char) below(256));
        }
        return text.toString();
    }

    String spoiled(String text) {
        int at = below(text.length() + 1);
        int to = Math.min(text.length(), at + (below(2) == 0 ? 0 : below(3)));
        return text.substring(0, at) + (below(3) == 0 ? "" : one(SCRAPS)) + text.substring(to);
    }

    String query() {
        StringBuilder text = new StringBuilder(tell());
        for (int i = below(3); i > 0; i--) {
            text.append(one(",", ", ", " , ")).append(tell());
        }
        text.append(" of ").append(arrayText());
        if (below(2) == 0) {
            text.append(" [").append(range()).append(", ").append(range()).append(",").append(range()).append("]");
        }
        if (below(2) == 0) {
            text.append(" where ").append(test(below(5)));
        }
        if (below(2) == 0) {
            text.append(" by ").append(one("x", "y", "z"));
        }
        return text.toString();
    }

    private String tell() {
        return below(4) == 0 ? "count" : one("sum", "min", "max", "first") + "(" + expr(below(6)) + ")";
    }

    private String arrayText() {
        String name = below(4) == 0 ? NAMES[2 + below(4)] : one("a", "b");
        return below(3) == 0 ? name + "@" + version.getAsInt() : name;
    }

    private String range() {
        int low = below(2);
        return switch (below(4)) {
            case 0 -> "" + low;
            case 1 -> low + ":" + (low + below(2));
            default -> "*";
        };
    }

    private String expr(int size) {
        if (size <= 0) {
            return one("it", "it", "x", "y", "z", "0", "1", "3", "" + below(100), "2147483647", arrayText());
        }
        return switch (below(8)) {
            case 0 -> one("-", "- ") + expr(size - 1);
            case 1 -> "abs(" + expr(size - 1) + ")";
            case 2 -> "(" + expr(size - 1) + ")";
            default -> {
                int left = below(size);
                yield expr(left) + one(" + ", " - ", " * ", " / ", " % ", "+", "-", "*", "/", "%") + expr(size - 1 - left);
            }
        };
    }

    private String test(int size) {
        if (size <= 0) {
            return below(4) == 0 ? "null(" + expr(below(3)) + ")"
                : expr(below(3)) + one(" = ", " != ", " < ", " <= ", " > ", " >= ", "=", "<", ">=") + expr(below(3));
        }
        return switch (below(5)) {
            case 0 -> "not " + test(size - 1);
            case 1 -> "(" + test(size - 1) + ")";
            default -> {
                int left = below(size);
                yield test(left) + one(" and ", " or ") + test(size - 1 - left);
            }
        };
    }
}
