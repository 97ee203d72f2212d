import java.util.Random;

/** Runs of calls from fixed seeds, done by the program and by the model: their answers are the same. */
final class ModelTest {
    private static final int RUNS = 600, CALLS = 480;
    private static final int[] VALUES = {0, 1, -1, 2, 7, -7, 10, 1000, Integer.MAX_VALUE, Integer.MIN_VALUE};

    private final Random random;
    private final Checks checks;
    private final ArrayVault vault = new ArrayVault();
    private final Model model = new Model();
    private final Texts texts;
    private final String run;
    private int calls;

    private ModelTest(Checks checks, int seed) {
        this.checks = checks;
        this.random = new Random(seed);
        this.texts = new Texts(random, this::version);
        this.run = "run " + seed + ": ";
    }

    public static void main(String[] args) {
        Checks checks = new Checks("ModelTest");
        for (int seed = 0; seed < RUNS; seed++) {
            ModelTest test = new ModelTest(checks, seed);
            test.makeSome();
            while (test.calls < CALLS) {
                test.step();
            }
        }
        checks.close();
    }

    private int below(int n) {
        return random.nextInt(n);
    }

    private void due(String what, long got, long want) {
        calls++;
        checks.due(run + what, got, want);
    }

    private void write(String text) {
        int[] n = new int[5];
        for (int i = 0; i < text.length(); i += 20) {
            String part = (text.substring(i) + "\0".repeat(20)).substring(0, 20);
            for (int k = 0; k < 5; k++) {
                n[k] = part.charAt(4 * k) << 24 | part.charAt(4 * k + 1) << 16 | part.charAt(4 * k + 2) << 8 | part.charAt(4 * k + 3);
            }
            due("feed", vault.feed(n[0], n[1], n[2], n[3], n[4]), model.feed(part));
        }
        int n1 = text.length() + (below(60) == 0 ? below(3) - 1 : 0);
        due("end", vault.end(n1), model.end(n1));
    }

    private void makeSome() {
        int alike = 1 + below(3);
        for (int i = 0; i < 3; i++) {
            write(Texts.NAMES[i]);
            int x = i < 2 ? 1 + alike : 1 + below(3);
            due("make", vault.make(x, 2, alike), model.make(x, 2, alike));
        }
    }

    private int value() {
        return below(3) == 0 ? VALUES[below(VALUES.length)] : below(41) - 20;
    }

    private int version() {
        return below(6) == 0 ? below(20) - 2 : Math.max(0, model.count(2) - below(6));
    }

    private int array() {
        return below(20) == 0 ? below(9) - 1 : below(Math.max(1, model.count(0)));
    }

    private int packed() {
        return below(40) == 0 ? random.nextInt() : Checks.at(below(4), below(3), below(4));
    }

    private void step() {
        switch (below(14)) {
            case 0 -> makeAny();
            case 1, 2 -> setAny();
            case 3, 4 -> fillAny();
            case 5 -> {
                int array = array(), from = packed() % 2, to = packed();
                due("wipe", vault.wipe(array, from, to), model.wipe(array, from, to));
            }
            case 6 -> due("commit", vault.commit(), model.commit());
            case 7 -> versionsAny();
            case 8 -> getAny();
            case 9 -> {
                int what = below(8) - 1;
                due("count " + what, vault.count(what), model.count(what));
            }
            default -> ask();
        }
    }

    private void makeAny() {
        String name = texts.one(Texts.NAMES);
        write(name);
        int x = below(5), y = 1 + below(3), z = 1 + below(3);
        due("make " + name, vault.make(x, y, z), model.make(x, y, z));
    }

    private void setAny() {
        int array = array(), x = below(4), y = below(3), z = below(4) - 1, v = value();
        due("set", vault.set(array, x, y, z, v), model.set(array, x, y, z, v));
    }

    private void fillAny() {
        int array = array(), from = below(3) == 0 ? packed() : 0, to = packed();
        int start = value(), dx = value(), dy = value(), dz = value();
        due("fill", vault.fill(array, from, to, start, dx, dy, dz), model.fill(array, from, to, start, dx, dy, dz));
    }

    private void versionsAny() {
        int one = version(), two = version();
        switch (below(4)) {
            case 0 -> due("open " + one, vault.open(one), model.open(one));
            case 1, 2 -> due("drop " + one, vault.drop(one), model.drop(one));
            default -> due("differ " + one + " " + two, vault.differ(one, two), model.differ(one, two));
        }
    }

    private void getAny() {
        int array = array(), x = below(5) - 1, y = below(4), z = below(4), version = version();
        due("get", vault.get(array, x, y, z, version), model.get(array, x, y, z, version));
    }

    private void ask() {
        String text = texts.query();
        for (int i = below(3); i > 1; i--) {
            text = texts.spoiled(text);
        }
        if (text.length() > 590) {
            return;
        }
        write(text);
        due("query " + text, vault.query(), model.query());
        due("rows of " + text, vault.rows(), model.answer.size());
        due("columns of " + text, vault.count(5), model.columns);
        for (int r = 0; r < model.answer.size(); r++) {
            for (int c = 0; c < model.columns; c++) {
                due("cell(" + r + ", " + c + ") of " + text, vault.cell(r, c), model.cell(r, c));
            }
        }
        int r = below(6) - 1, c = below(8) - 1;
        due("cell(" + r + ", " + c + ") of " + text, vault.cell(r, c), model.cell(r, c));
    }
}
