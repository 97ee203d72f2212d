/** Promises 8 to 11. */
final class VersionsTest {
    private static final Checks CHECKS = new Checks("VersionsTest");

    public static void main(String[] args) {
        commit();
        open();
        drop();
        differ();
        arraysMadeSince();
        reused();
        CHECKS.close();
    }

    private static ArrayVault pair() {
        ArrayVault vault = new ArrayVault();
        Checks.make(vault, "a", 2, 2, 1);
        Checks.make(vault, "b", 3, 1, 1);
        return vault;
    }

    private static void commit() {
        ArrayVault vault = new ArrayVault();
        for (int i = 1; i <= 12; i++) {
            CHECKS.due("commit without arrays", vault.commit(), i);
        }
        CHECKS.due("commit with 12", vault.commit(), ArrayVault.FULL);
        CHECKS.due("no number was given", vault.count(2), 12);
        CHECKS.due("drop", vault.drop(12), 11);
        CHECKS.due("commit goes on", vault.commit(), 13);
        CHECKS.due("twelve", vault.count(1), 12);
        CHECKS.due("thirteen", vault.count(2), 13);
    }

    private static void open() {
        ArrayVault vault = pair();
        vault.fill(0, 0, Checks.at(1, 1, 0), 5, 0, 0, 0);
        vault.set(1, 0, 0, 0, 1);
        vault.commit();
        vault.set(0, 0, 0, 0, 6);
        vault.wipe(0, Checks.at(1, 1, 0), Checks.at(1, 1, 0));
        vault.set(1, 2, 0, 0, 9);
        vault.set(1, 0, 0, 0, 1);
        CHECKS.due("open", vault.open(1), 3);
        CHECKS.due("a value is back", vault.get(0, 0, 0, 0, 0), 5);
        CHECKS.due("a wiped one is back", vault.get(0, 1, 1, 0, 0), 5);
        CHECKS.due("a NULL is back", vault.get(1, 2, 0, 0, 0), Checks.NULL_CELL);
        CHECKS.due("open again", vault.open(1), 0);
        vault.set(0, 0, 0, 0, 8);
        CHECKS.due("the version stays", vault.get(0, 0, 0, 0, 1), 5);
        for (int version : new int[] {0, -1, 2, 13, Integer.MIN_VALUE, Integer.MAX_VALUE}) {
            CHECKS.due("open " + version, vault.open(version), ArrayVault.NONE);
        }
        CHECKS.due("the work stays", vault.get(0, 0, 0, 0, 0), 8);
        CHECKS.due("opening makes no version", vault.count(2), 1);
    }

    private static void drop() {
        ArrayVault vault = pair();
        vault.commit();
        vault.set(0, 0, 0, 0, 2);
        vault.commit();
        vault.commit();
        CHECKS.due("drop", vault.drop(2), 2);
        CHECKS.due("drop again", vault.drop(2), ArrayVault.NONE);
        CHECKS.due("open what was dropped", vault.open(2), ArrayVault.NONE);
        CHECKS.due("differ with what was dropped", vault.differ(2, 1), ArrayVault.NONE);
        for (int version : new int[] {0, -1, 4, Integer.MIN_VALUE, Integer.MAX_VALUE}) {
            CHECKS.due("drop " + version, vault.drop(version), ArrayVault.NONE);
        }
        CHECKS.due("others stay", vault.get(0, 0, 0, 0, 3), 2);
        CHECKS.due("drop the last", vault.drop(3), 1);
        CHECKS.due("the number goes on", vault.commit(), 4);
        CHECKS.due("drop", vault.drop(1), 1);
        CHECKS.due("drop", vault.drop(4), 0);
        CHECKS.due("none is there", vault.count(1), 0);
        CHECKS.due("the greatest stays", vault.count(2), 4);
    }

    private static void differ() {
        ArrayVault vault = pair();
        vault.fill(0, 0, Checks.at(1, 1, 0), 1, 0, 0, 0);
        vault.commit();
        vault.set(0, 0, 0, 0, 2);
        vault.set(1, 0, 0, 0, 0);
        vault.commit();
        vault.wipe(0, 0, Checks.at(0, 1, 0));
        CHECKS.due("1 and 2", vault.differ(1, 2), 2);
        CHECKS.due("2 and 1", vault.differ(2, 1), 2);
        CHECKS.due("1 and the work", vault.differ(1, 0), 3);
        CHECKS.due("the work and 2", vault.differ(0, 2), 2);
        CHECKS.due("the same", vault.differ(2, 2), 0);
        CHECKS.due("the work twice", vault.differ(0, 0), 0);
        int[][] wrong = {{3, 0}, {0, 3}, {-1, 0}, {0, -1}, {3, 3}, {1, Integer.MAX_VALUE}, {Integer.MIN_VALUE, 1}};
        for (int[] w : wrong) {
            CHECKS.due("differ " + w[0] + " " + w[1], vault.differ(w[0], w[1]), ArrayVault.NONE);
        }
    }

    private static void arraysMadeSince() {
        ArrayVault vault = pair();
        vault.set(0, 0, 0, 0, 1);
        vault.commit();
        Checks.make(vault, "c", 2, 2, 1);
        CHECKS.due("it is NULL in the version", vault.get(2, 0, 0, 0, 1), Checks.NULL_CELL);
        CHECKS.due("its places are in the version", vault.get(2, 2, 0, 0, 1), Checks.NO_CELL);
        vault.fill(2, 0, Checks.at(1, 1, 0), 7, 0, 0, 0);
        CHECKS.due("all its cells differ", vault.differ(0, 1), 4);
        CHECKS.tells(vault, "sum(it) of c@1", 0);
        CHECKS.tells(vault, "sum(it + c@1) of c", 0);
        CHECKS.tells(vault, "count of c where null(c@1)", 4);
        CHECKS.due("open", vault.open(1), 4);
        CHECKS.due("it stays", vault.count(0), 3);
        CHECKS.due("all NULL", vault.get(2, 1, 1, 0, 0), Checks.NULL_CELL);
        CHECKS.due("the other is as it was", vault.count(4), 1);
    }

    /** What a dropped version held must not shine through in the ones behind it. */
    private static void reused() {
        ArrayVault vault = pair();
        vault.fill(0, 0, Checks.at(1, 1, 0), 3, 0, 0, 0);
        vault.commit();
        vault.drop(1);
        vault.wipe(0, 0, Checks.at(1, 1, 0));
        vault.set(0, 1, 1, 0, 4);
        CHECKS.due("commit", vault.commit(), 2);
        CHECKS.due("NULL", vault.get(0, 0, 0, 0, 2), Checks.NULL_CELL);
        CHECKS.due("value", vault.get(0, 1, 1, 0, 2), 4);
        CHECKS.due("no difference", vault.differ(0, 2), 0);
        for (int i = 3; i < 110; i++) {
            vault.set(0, 0, 0, 0, i);
            CHECKS.due("commit", vault.commit(), i);
            CHECKS.due("drop", vault.drop(i - 1), 1);
            CHECKS.due("get", vault.get(0, 0, 0, 0, i), i);
        }
    }
}
