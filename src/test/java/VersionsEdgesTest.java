/** The edges of VERSIONS in the document's Terms, and those of promises 8 to 11: one method for each sentence. */
final class VersionsEdgesTest {
    private static final Checks CHECKS = new Checks("VersionsEdgesTest");
    private static final int LEAST = Integer.MIN_VALUE, GREATEST = Integer.MAX_VALUE;

    /** Numbers of versions that the scene does not have: 2 was dropped, 4 is the next. */
    private static final int[] GONE = {2, 4, 5, 12, 13, -1, -3, LEAST, GREATEST};

    public static void main(String[] args) {
        numberedFromOne();
        atMostTwelve();
        twelveThatAreThere();
        commitWithoutArrays();
        theWorkAsItWasThen();
        madeBehindAVersion();
        droppedAreThereNoMore();
        numbersStay();
        numbersToTheLastCall();
        openTellsHowManyDiffered();
        openLeavesTheVersions();
        openOfNone();
        openZero();
        openWithArraysMadeSince();
        dropTellsHowManyAreThere();
        dropOfNone();
        differOfVersions();
        differOfTheWork();
        differOfNone();
        differOfArraysMadeSince();
        CHECKS.close();
    }

    /** "numbered from 1 by commit" */
    private static void numberedFromOne() {
        ArrayVault vault = Scene.one();
        CHECKS.due("none before", vault.count(2), 0);
        CHECKS.due("the first", vault.commit(), 1);
        CHECKS.due("the second, of the same work", vault.commit(), 2);
        CHECKS.due("the greatest", vault.count(2), 2);
    }

    /** "at most 12"; promise 8: "FULL with 12 that are there" */
    private static void atMostTwelve() {
        ArrayVault vault = Scene.one();
        for (int i = 1; i <= 12; i++) {
            vault.set(0, 0, 0, 0, 100 + i);
            CHECKS.due("commit " + i, vault.commit(), i);
        }
        vault.set(0, 0, 0, 0, 200);
        State before = State.of(vault);
        CHECKS.due("the thirteenth", vault.commit(), ArrayVault.FULL);
        CHECKS.due("again", vault.commit(), ArrayVault.FULL);
        CHECKS.unchanged("FULL", vault, before);
        for (int i = 1; i <= 12; i++) {
            CHECKS.due("version " + i, vault.get(0, 0, 0, 0, i), 100 + i);
        }
    }

    /** Versions that were dropped do not count among the 12, and a commit that is FULL takes no number. */
    private static void twelveThatAreThere() {
        ArrayVault vault = Scene.one();
        for (int i = 1; i <= 12; i++) {
            vault.commit();
        }
        for (int i = 1; i <= 30; i++) {
            CHECKS.due("full", vault.commit(), ArrayVault.FULL);
            CHECKS.due("drop " + i, vault.drop(i), 11);
            vault.set(0, 0, 0, 0, i);
            CHECKS.due("one more", vault.commit(), 12 + i);
            CHECKS.due("its work", vault.get(0, 0, 0, 0, 12 + i), i);
        }
        CHECKS.due("the oldest", vault.get(0, 0, 0, 0, 31), 19);
        CHECKS.due("twelve", vault.count(1), 12);
        CHECKS.due("the greatest", vault.count(2), 42);
    }

    private static void commitWithoutArrays() {
        ArrayVault vault = new ArrayVault();
        for (int i = 1; i <= 12; i++) {
            CHECKS.due("commit " + i, vault.commit(), i);
        }
        CHECKS.due("the thirteenth", vault.commit(), ArrayVault.FULL);
        CHECKS.due("open", vault.open(12), 0);
        CHECKS.due("differ", vault.differ(1, 12), 0);
    }

    /** "are the work as it was then" */
    private static void theWorkAsItWasThen() {
        ArrayVault vault = Scene.ready();
        int last = Checks.at(1, 2, 1);
        vault.commit();
        vault.set(0, 0, 0, 0, 9);
        vault.fill(1, 0, last, 8, 0, 0, 0);
        vault.wipe(0, Checks.at(0, 0, 1), Checks.at(0, 0, 1));
        vault.open(1);
        vault.wipe(1, 0, last);
        CHECKS.due("a cell that was set", vault.get(0, 0, 0, 0, 4), -5);
        CHECKS.due("one that was wiped", vault.get(0, 0, 0, 1, 4), 1);
        CHECKS.due("one that was filled", vault.get(1, 0, 0, 0, 4), 1);
        CHECKS.due("one that was NULL", vault.get(0, 1, 2, 1, 4), Checks.NULL_CELL);
        CHECKS.tells(vault, "sum(it) of b@4", 732 + 6);
    }

    /** "an array that was made behind a version is all NULL in that" */
    private static void madeBehindAVersion() {
        ArrayVault vault = Scene.ready();
        Checks.make(vault, "d", 2, 3, 2);
        vault.fill(3, 0, Checks.at(1, 2, 1), 4, 0, 0, 0);
        vault.commit();
        for (int version : new int[] {1, 3}) {
            CHECKS.due("the first in " + version, vault.get(3, 0, 0, 0, version), Checks.NULL_CELL);
            CHECKS.due("the last in " + version, vault.get(3, 1, 2, 1, version), Checks.NULL_CELL);
            CHECKS.tells(vault, "count of d@" + version + " where null(it)", 12);
            CHECKS.tells(vault, "count of a where null(d@" + version + ")", 12);
            CHECKS.tells(vault, "sum(d@" + version + ") of a", 0);
        }
        CHECKS.due("no place of it", vault.get(3, 2, 0, 0, 1), Checks.NO_CELL);
        CHECKS.due("no version of it", vault.get(3, 0, 0, 0, 2), Checks.NO_CELL);
        CHECKS.due("before the next version it is there", vault.get(3, 1, 2, 1, 4), 4);
        CHECKS.tells(vault, "sum(it) of d@4", 48);
    }

    /** "Versions that were dropped are there no more" */
    private static void droppedAreThereNoMore() {
        ArrayVault vault = Scene.ready();
        CHECKS.due("before: get", vault.get(0, 0, 0, 0, 1), 0);
        CHECKS.tells(vault, "count of a@1", 12);
        CHECKS.due("drop", vault.drop(1), 1);
        State before = State.of(vault);
        CHECKS.due("get", vault.get(0, 0, 0, 0, 1), Checks.NO_CELL);
        CHECKS.due("open", vault.open(1), ArrayVault.NONE);
        CHECKS.due("drop", vault.drop(1), ArrayVault.NONE);
        CHECKS.due("differ", vault.differ(1, 3), ArrayVault.NONE);
        CHECKS.due("differ from itself", vault.differ(1, 1), ArrayVault.NONE);
        CHECKS.fault(vault, "count of a@^1");
        CHECKS.fault(vault, "sum(a@^1) of a");
        CHECKS.fault(vault, "count of a where a@^1 = 1");
        CHECKS.unchanged("what is there no more", vault, before);
    }

    /** "their numbers stay": no other version has them, and others keep theirs. */
    private static void numbersStay() {
        ArrayVault vault = Scene.ready();
        CHECKS.due("the next", vault.commit(), 4);
        CHECKS.due("drop the greatest", vault.drop(4), 2);
        CHECKS.due("the greatest number stays", vault.count(2), 4);
        CHECKS.due("the next", vault.commit(), 5);
        CHECKS.due("drop", vault.drop(1), 2);
        CHECKS.due("3 is 3", vault.get(0, 1, 2, 1, 3), 121);
        CHECKS.due("5 is 5", vault.get(0, 1, 2, 1, 5), Checks.NULL_CELL);
        vault.drop(3);
        vault.drop(5);
        CHECKS.due("none is there", vault.count(1), 0);
        CHECKS.due("the greatest number stays", vault.count(2), 5);
        CHECKS.due("the next", vault.commit(), 6);
        for (int dropped = 1; dropped <= 5; dropped++) {
            CHECKS.due("none has " + dropped, vault.open(dropped), ArrayVault.NONE);
        }
    }

    /** As many numbers as an object's calls can give: 256 versions in 512 calls. */
    private static void numbersToTheLastCall() {
        ArrayVault vault = new ArrayVault();
        for (int i = 1; i <= 256; i++) {
            CHECKS.due("commit " + i, vault.commit(), i);
            CHECKS.due("drop " + i, vault.drop(i), 0);
        }
        ArrayVault later = Scene.one();
        for (int i = 1; i <= 166; i++) {
            later.set(0, 0, 0, 0, i);
            later.commit();
            later.drop(i - 1);
        }
        CHECKS.due("the greatest", later.count(2), 166);
        CHECKS.due("the one that is left", later.get(0, 0, 0, 0, 166), 166);
        CHECKS.tells(later, "sum(it) of a@166", 166);
    }

    /** Promise 9: "The work becomes a version: how many cells, of all arrays, differed from it" */
    private static void openTellsHowManyDiffered() {
        ArrayVault vault = Scene.ready();
        CHECKS.due("one of 3", vault.open(3), 1);
        CHECKS.due("the NULL is gone", vault.get(0, 1, 2, 1, 0), 121);
        CHECKS.due("none now", vault.open(3), 0);
        CHECKS.due("one of 1", vault.open(1), 1);
        CHECKS.due("the first is back", vault.get(0, 0, 0, 0, 0), 0);
        vault.wipe(0, 0, 0);
        vault.set(1, 0, 0, 0, 2);
        vault.set(2, 0, 2, 1, 0);
        vault.set(1, 1, 2, 1, 122);
        CHECKS.due("a 0 that is NULL, another value, a NULL that is 0", vault.open(1), 3);
        CHECKS.due("0 again", vault.get(0, 0, 0, 0, 0), 0);
        CHECKS.due("NULL again", vault.get(2, 0, 2, 1, 0), Checks.NULL_CELL);
        CHECKS.due("the work is the version", vault.differ(0, 1), 0);
    }

    private static void openLeavesTheVersions() {
        ArrayVault vault = Scene.ready();
        vault.open(1);
        CHECKS.due("no version more", vault.count(1), 2);
        CHECKS.due("no number more", vault.count(2), 3);
        CHECKS.due("the rows stay", vault.cell(1, 2), 542);
        CHECKS.due("set", vault.set(0, 0, 0, 0, 70), 0);
        CHECKS.due("1 stays", vault.get(0, 0, 0, 0, 1), 0);
        CHECKS.due("3 stays", vault.get(0, 0, 0, 0, 3), -5);
        CHECKS.due("the next number", vault.commit(), 4);
    }

    /** "NONE if it is not there" */
    private static void openOfNone() {
        ArrayVault vault = Scene.ready();
        State before = State.of(vault);
        for (int version : GONE) {
            CHECKS.due("open " + version, vault.open(version), ArrayVault.NONE);
        }
        CHECKS.unchanged("open of none", vault, before);
        CHECKS.due("before any version", Scene.one().open(1), ArrayVault.NONE);
    }

    /** "(0, too)" */
    private static void openZero() {
        ArrayVault vault = Scene.ready();
        State before = State.of(vault);
        CHECKS.due("open 0", vault.open(0), ArrayVault.NONE);
        CHECKS.unchanged("open of 0", vault, before);
        CHECKS.due("in a new object", new ArrayVault().open(0), ArrayVault.NONE);
    }

    /** "(Arrays that were made since stay, all NULL.)" */
    private static void openWithArraysMadeSince() {
        ArrayVault vault = Scene.ready();
        Checks.make(vault, "d", 2, 3, 2);
        Checks.make(vault, "e", 1, 1, 1);
        vault.fill(3, 0, Checks.at(1, 2, 1), 4, 0, 0, 0);
        vault.wipe(3, 0, 0);
        CHECKS.due("eleven cells of d, one of a", vault.open(3), 12);
        CHECKS.due("they stay", vault.count(0), 5);
        CHECKS.due("their cells stay", vault.count(3), 12 + 12 + 6 + 12 + 1);
        CHECKS.tells(vault, "count of d where null(it)", 12);
        CHECKS.due("a and b are there", vault.count(4), 24);
        CHECKS.due("set", vault.set(3, 1, 2, 1, 6), 0);
        CHECKS.due("NULL in the version", vault.get(3, 1, 2, 1, 3), Checks.NULL_CELL);
        CHECKS.due("its name is taken", Checks.make(vault, "d", 1, 1, 1), ArrayVault.THERE);
    }

    /** Promise 10: "A version is dropped: how many are there" */
    private static void dropTellsHowManyAreThere() {
        ArrayVault vault = Scene.one();
        for (int i = 1; i <= 12; i++) {
            vault.commit();
        }
        int left = 12;
        for (int version : new int[] {12, 1, 6, 7, 2, 3, 4, 5, 8, 9, 10, 11}) {
            left--;
            CHECKS.due("drop " + version, vault.drop(version), left);
            CHECKS.due("versions", vault.count(1), left);
        }
        CHECKS.due("of none", vault.drop(11), ArrayVault.NONE);
        CHECKS.due("versions", vault.count(1), 0);
    }

    /** "NONE if it is not there" */
    private static void dropOfNone() {
        ArrayVault vault = Scene.ready();
        State before = State.of(vault);
        for (int version : GONE) {
            CHECKS.due("drop " + version, vault.drop(version), ArrayVault.NONE);
        }
        CHECKS.due("drop 0", vault.drop(0), ArrayVault.NONE);
        CHECKS.unchanged("drop of none", vault, before);
        CHECKS.due("before any version", Scene.one().drop(1), ArrayVault.NONE);
        CHECKS.due("drop 3", vault.drop(3), 1);
        CHECKS.due("the work stays", vault.get(0, 0, 0, 0, 0), -5);
    }

    /** Promise 11: "In how many cells, of all arrays, two versions differ" */
    private static void differOfVersions() {
        ArrayVault vault = Scene.ready();
        State before = State.of(vault);
        CHECKS.due("1 and 3", vault.differ(1, 3), 1);
        CHECKS.due("3 and 1", vault.differ(3, 1), 1);
        CHECKS.due("1 and 1", vault.differ(1, 1), 0);
        CHECKS.unchanged("differ", vault, before);
        vault.open(1);
        vault.wipe(0, 0, 0);
        vault.set(1, 1, 2, 1, 0);
        vault.fill(2, 0, Checks.at(0, 2, 1), 0, 0, 0, 0);
        vault.commit();
        CHECKS.due("0 and NULL, 122 and 0, six NULLs and 0", vault.differ(1, 4), 8);
        CHECKS.due("-5 and NULL, and the others", vault.differ(4, 3), 8);
    }

    /** "(0: the work)" */
    private static void differOfTheWork() {
        ArrayVault vault = Scene.ready();
        CHECKS.due("0 and 1", vault.differ(0, 1), 2);
        CHECKS.due("1 and 0", vault.differ(1, 0), 2);
        CHECKS.due("0 and 3", vault.differ(0, 3), 1);
        CHECKS.due("0 and 0", vault.differ(0, 0), 0);
        CHECKS.due("in a new object", new ArrayVault().differ(0, 0), 0);
    }

    /** "NONE if one is not there" */
    private static void differOfNone() {
        ArrayVault vault = Scene.ready();
        State before = State.of(vault);
        for (int version : GONE) {
            for (int other : new int[] {0, 1, version}) {
                CHECKS.due("differ " + version + " " + other, vault.differ(version, other), ArrayVault.NONE);
                CHECKS.due("differ " + other + " " + version, vault.differ(other, version), ArrayVault.NONE);
            }
        }
        CHECKS.unchanged("differ of none", vault, before);
        CHECKS.due("before any version", new ArrayVault().differ(0, 1), ArrayVault.NONE);
    }

    private static void differOfArraysMadeSince() {
        ArrayVault vault = Scene.ready();
        Checks.make(vault, "d", 2, 3, 2);
        CHECKS.due("all NULL in both", vault.differ(0, 3), 1);
        vault.fill(3, 0, Checks.at(1, 2, 1), 0, 0, 0, 0);
        CHECKS.due("all twelve", vault.differ(3, 0), 13);
        vault.commit();
        CHECKS.due("in versions", vault.differ(4, 3), 13);
        CHECKS.due("NULL in two", vault.differ(1, 3), 1);
    }
}
