/** The objects that the tests of the document's edges begin with. */
final class Scene {
    private Scene() {
    }

    /** One array a of one cell, which is NULL. */
    static ArrayVault one() {
        ArrayVault vault = new ArrayVault();
        Checks.make(vault, "a", 1, 1, 1);
        return vault;
    }

    /**
     * a and b, 2 by 3 by 2, and c, 1 by 3 by 2, all NULL. The cells of a and b are 100 * x + 10 * y + z, in b one
     * more; versions 1 and 3 are there, 2 is not; in 3 and in the work the first cell of a is -5, and in the work
     * its last is NULL. The rows are (0, 6, 58) and (1, 6, 542).
     */
    static ArrayVault ready() {
        ArrayVault vault = new ArrayVault();
        Checks.make(vault, "a", 2, 3, 2);
        Checks.make(vault, "b", 2, 3, 2);
        Checks.make(vault, "c", 1, 3, 2);
        int last = Checks.at(1, 2, 1);
        vault.fill(0, 0, last, 0, 100, 10, 1);
        vault.fill(1, 0, last, 1, 100, 10, 1);
        vault.commit();
        vault.commit();
        vault.drop(2);
        vault.set(0, 0, 0, 0, -5);
        vault.commit();
        vault.wipe(0, last, last);
        Checks.ask(vault, "count, sum(it) of a by x");
        return vault;
    }
}
