import java.nio.charset.StandardCharsets;
import java.util.Arrays;

/** Counts the answers of a test, and spares it the packing of texts and places. */
final class Checks {
    static final long NULL_CELL = 1L << 40, NO_CELL = NULL_CELL + 1;
    static final long NULL_ANSWER = 1L << 62, NO_ANSWER = NULL_ANSWER + 1;

    private final String name;
    private int passed;
    private int failed;

    Checks(String name) {
        this.name = name;
    }

    void due(String what, long got, long want) {
        if (got == want) {
            passed++;
        } else {
            failed++;
            System.out.println(name + ": " + what + " answered " + got + ", due is " + want);
        }
    }

    /** A query that has no fault, and its rows, each with its coordinate. */
    void rows(ArrayVault vault, String text, long[]... want) {
        due(text, ask(vault, text), ArrayVault.NONE);
        due(text + ": rows", vault.rows(), want.length);
        for (int r = 0; r < want.length; r++) {
            due(text + ": columns", vault.count(5), want[r].length);
            for (int c = 0; c < want[r].length; c++) {
                due(text + ": cell(" + r + ", " + c + ")", vault.cell(r, c), want[r][c]);
            }
        }
    }

    /** A query without by of one tell. */
    void tells(ArrayVault vault, String text, long want) {
        rows(vault, text, row(0, want));
    }

    /** A query whose fault is where the mark ^ stands, which is itself no part of the text. */
    void fault(ArrayVault vault, String marked) {
        int place = marked.indexOf('^');
        String text = marked.substring(0, place) + marked.substring(place + 1);
        due(marked, ask(vault, text), place);
    }

    /** What a call that was refused must leave: all but the tape. */
    void unchanged(String what, ArrayVault vault, State before) {
        String change = State.changeSince(before, vault);
        due(what + (change == null ? "" : ": " + change), change == null ? 1 : 0, 1);
    }

    /** The tape has so many bytes, no less and no more; it is left as it is. */
    void tapeHas(String what, ArrayVault vault, int length) {
        due(what + ": the tape has no more than " + length, vault.end(length + 1), ArrayVault.REFUSED);
        due(what + ": the tape has " + length, vault.end(length), length);
    }

    /** Says what came out; the exit code is 1 if an answer was wrong. */
    void close() {
        System.out.println(name + ": " + passed + " passed, " + failed + " failed");
        System.exit(failed == 0 ? 0 : 1);
    }

    static long[] row(long... cells) {
        return cells;
    }

    static int write(ArrayVault vault, String text) {
        byte[] bytes = text.getBytes(StandardCharsets.ISO_8859_1);
        byte[] whole = Arrays.copyOf(bytes, (bytes.length + 19) / 20 * 20);
        for (int i = 0; i < whole.length; i += 20) {
            vault.feed(four(whole, i), four(whole, i + 4), four(whole, i + 8), four(whole, i + 12), four(whole, i + 16));
        }
        return vault.end(bytes.length);
    }

    private static int four(byte[] bytes, int at) {
        return (bytes[at] & 255) << 24 | (bytes[at + 1] & 255) << 16 | (bytes[at + 2] & 255) << 8 | bytes[at + 3] & 255;
    }

    static int ask(ArrayVault vault, String text) {
        write(vault, text);
        return vault.query();
    }

    static int make(ArrayVault vault, String name, int x, int y, int z) {
        write(vault, name);
        return vault.make(x, y, z);
    }

    static int at(int x, int y, int z) {
        return 32 * (32 * x + y) + z;
    }
}
