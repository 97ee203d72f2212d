import java.util.Random;
import java.util.function.LongSupplier;

/**
 * Calls with any arguments in any state, one by one beside the model up to the 512th of an object. What the calls
 * behind that answer is free, but LANGUAGE.md, rule 7, holds for them too: none throws, and each ends.
 */
final class AnyCallTest {
    private static final Checks CHECKS = new Checks("AnyCallTest");
    private static final int RUNS = 400, CALLS = 512, BEHIND = 300;

    /** Far more than the runs need: who has not ended by then never does. */
    private static final long MOST_MILLIS = 300_000;

    /** Small, so that calls which stand open without a bound are seen. */
    private static final long STACK = 256 * 1024;

    private static final int[] EDGES = {Integer.MIN_VALUE, Integer.MIN_VALUE + 1, -32769, -32768, -1024, -600, -32, -24, -13, -12,
        -6, -5, -4, -3, -2, -1, 0, 1, 2, 3, 4, 5, 6, 7, 11, 12, 13, 19, 20, 21, 23, 24, 25, 31, 32, 33, 255, 256, 580, 581, 599,
        600, 601, 1023, 1024, 1056, 2047, 2048, 23552, 24575, 24576, 32767, 32768, 32769, 65535, 65536, 1 << 30, 0x61202020,
        Integer.MAX_VALUE - 1, Integer.MAX_VALUE};
    private static final int[][] SIZES = {{2, 3, 2}, {2, 3, 2}, {1, 1, 1}, {3, 2, 4}, {24, 1, 1}, {1, 1, 24}};

    private final Random random;
    private final Texts texts;
    private final String run;
    private final ArrayVault vault = new ArrayVault();
    private final Model model = new Model();
    private int calls;

    private AnyCallTest(int seed) {
        random = new Random(seed);
        texts = new Texts(random, this::near);
        run = "run " + seed + ", call ";
    }

    public static void main(String[] args) throws InterruptedException {
        Thread runs = new Thread(null, AnyCallTest::runAll, "runs", STACK);
        runs.setDaemon(true);
        runs.start();
        runs.join(MOST_MILLIS);
        CHECKS.due("calls that do not end", runs.isAlive() ? 1 : 0, 0);
        CHECKS.close();
    }

    private static void runAll() {
        for (int seed = 0; seed < RUNS; seed++) {
            AnyCallTest test = new AnyCallTest(seed);
            test.begin(seed % 4);
            while (test.calls < CALLS + BEHIND) {
                test.step();
            }
        }
    }

    private void call(String what, LongSupplier program, LongSupplier due) {
        calls++;
        try {
            long got = program.getAsLong();
            if (calls <= CALLS) {
                CHECKS.due(run + calls + ", " + what, got, due.getAsLong());
            }
        } catch (RuntimeException | StackOverflowError e) {
            CHECKS.due(run + calls + ", " + what + " threw " + e, 1, 0);
        }
    }

    /** A new object; one with arrays; one with all arrays; one with all arrays and versions. */
    private void begin(int kind) {
        int arrays = kind == 0 ? 0 : kind == 1 ? 3 : 6;
        for (int i = 0; i < arrays; i++) {
            int[] s = SIZES[i];
            write(Texts.NAMES[i]);
            make(s[0], s[1], s[2]);
            fill(i, 0, Checks.at(s[0] - 1, s[1] - 1, s[2] - 1), i, 100, 10, 1);
        }
        for (int i = 0; kind == 3 && i < 12; i++) {
            call("commit", vault::commit, model::commit);
        }
    }

    private int below(int n) {
        return random.nextInt(n);
    }

    /** A number that is often one of a version. */
    private int near() {
        return below(8) == 0 ? any() : below(14);
    }

    /** A number that is often one of an array, a coordinate or a row. */
    private int small() {
        return below(8) == 0 ? any() : below(8) == 0 ? below(8) - 1 : below(3);
    }

    private int any() {
        return below(8) == 0 ? random.nextInt() : EDGES[below(EDGES.length)];
    }

    private int packed() {
        return below(6) == 0 ? any() : Checks.at(below(3), below(3), below(3));
    }

    private void step() {
        switch (below(16)) {
            case 0 -> feed(any(), any(), any(), any(), any());
            case 1 -> end(any());
            case 2 -> makeAny();
            case 3 -> set(small(), small(), small(), small(), any());
            case 4 -> fill(small(), packed(), packed(), any(), any(), any(), any());
            case 5 -> wipe(small(), packed(), packed());
            case 6 -> call("commit", vault::commit, model::commit);
            case 7 -> open(near());
            case 8 -> drop(near());
            case 9 -> differ(near(), near());
            case 10 -> get(small(), small(), small(), small(), near());
            case 11 -> call("query", vault::query, model::query);
            case 12 -> call("rows", vault::rows, () -> model.answer.size());
            case 13 -> cell(small(), small());
            case 14 -> count(small());
            default -> writeAny();
        }
    }

    private void feed(int... n) {
        StringBuilder twenty = new StringBuilder();
        for (int i = 0; i < 20; i++) {
            twenty.append((char) (n[i / 4] >> 24 - 8 * (i % 4) & 255));
        }
        call("feed of any", () -> vault.feed(n[0], n[1], n[2], n[3], n[4]), () -> model.feed(twenty.toString()));
    }

    private void end(int n) {
        call("end " + n, () -> vault.end(n), () -> model.end(n));
    }

    private void make(int x, int y, int z) {
        call("make " + x + " " + y + " " + z, () -> vault.make(x, y, z), () -> model.make(x, y, z));
    }

    private void set(int array, int x, int y, int z, int v) {
        call("set " + array + ": " + x + " " + y + " " + z, () -> vault.set(array, x, y, z, v), () -> model.set(array, x, y, z, v));
    }

    private void fill(int array, int from, int to, int start, int dx, int dy, int dz) {
        call("fill " + array + ": " + from + " " + to, () -> vault.fill(array, from, to, start, dx, dy, dz),
            () -> model.fill(array, from, to, start, dx, dy, dz));
    }

    private void wipe(int array, int from, int to) {
        call("wipe " + array + ": " + from + " " + to, () -> vault.wipe(array, from, to), () -> model.wipe(array, from, to));
    }

    private void open(int version) {
        call("open " + version, () -> vault.open(version), () -> model.open(version));
    }

    private void drop(int version) {
        call("drop " + version, () -> vault.drop(version), () -> model.drop(version));
    }

    private void differ(int one, int two) {
        call("differ " + one + " " + two, () -> vault.differ(one, two), () -> model.differ(one, two));
    }

    private void get(int array, int x, int y, int z, int version) {
        call("get " + array + ": " + x + " " + y + " " + z + " in " + version, () -> vault.get(array, x, y, z, version),
            () -> model.get(array, x, y, z, version));
    }

    private void cell(int r, int c) {
        call("cell " + r + " " + c, () -> vault.cell(r, c), () -> model.cell(r, c));
    }

    private void count(int what) {
        call("count " + what, () -> vault.count(what), () -> model.count(what));
    }

    private void makeAny() {
        if (below(2) == 0) {
            write(texts.one(Texts.NAMES));
        }
        make(small(), small(), small());
    }

    private void writeAny() {
        String text = switch (below(6)) {
            case 0 -> texts.noise(below(below(8) == 0 ? 640 : 40));
            case 1 -> texts.soup(below(120));
            case 2 -> texts.one(Texts.NAMES);
            case 3 -> texts.spoiled(texts.query());
            default -> texts.query();
        };
        write(text);
        if (below(8) > 0) {
            call("query " + text, vault::query, model::query);
        }
    }

    /** Behind what is there already, which is cut off most of the time. */
    private void write(String text) {
        if (below(8) > 0) {
            end(0);
        }
        String whole = text + " ".repeat(19);
        for (int i = 0; i < text.length(); i += 20) {
            int[] n = new int[5];
            for (int k = 0; k < 20; k++) {
                n[k / 4] = n[k / 4] << 8 | whole.charAt(i + k);
            }
            feed(n);
        }
        if (text.length() % 20 > 0 && below(8) > 0) {
            end(text.length());
        }
    }
}
