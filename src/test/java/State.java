import java.util.ArrayList;
import java.util.List;

/**
 * All that an object shows but for its tape, at one moment: what a refused call must leave as it was.
 * Sees arrays of up to 2 by 3 by 2 whole; of greater ones a corner.
 */
final class State {
    private final List<String> calls = new ArrayList<>();
    private final List<Long> answers = new ArrayList<>();

    private State() {
    }

    static State of(ArrayVault vault) {
        State state = new State();
        for (int what = 0; what <= 5; what++) {
            state.add("count(" + what + ")", vault.count(what));
        }
        state.add("rows()", vault.rows());
        for (int r = 0; r < vault.rows(); r++) {
            for (int c = 0; c < vault.count(5); c++) {
                state.add("cell(" + r + ", " + c + ")", vault.cell(r, c));
            }
        }
        int arrays = vault.count(0), greatest = vault.count(2);
        for (int array = 0; array < arrays; array++) {
            for (int version = 0; version <= greatest; version++) {
                state.addCells(vault, array, version);
            }
        }
        return state;
    }

    private void addCells(ArrayVault vault, int array, int version) {
        for (int i = 0; i < 12; i++) {
            int x = i / 6, y = i / 2 % 3, z = i % 2;
            add("get(" + array + ", " + x + ", " + y + ", " + z + ", " + version + ")", vault.get(array, x, y, z, version));
        }
    }

    private void add(String call, long answer) {
        calls.add(call);
        answers.add(answer);
    }

    /** Null if nothing is otherwise now. */
    static String changeSince(State before, ArrayVault vault) {
        State now = of(vault);
        for (int i = 0; i < before.calls.size(); i++) {
            String was = before.calls.get(i) + " = " + before.answers.get(i);
            if (i >= now.calls.size()) {
                return was + " is there no more";
            }
            String is = now.calls.get(i) + " = " + now.answers.get(i);
            if (!was.equals(is)) {
                return was + " became " + is;
            }
        }
        return now.calls.size() == before.calls.size() ? null : now.calls.get(before.calls.size()) + " is new";
    }
}
