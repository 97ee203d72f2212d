/** The edges of ARRAYS in the document's Terms, and those of promises 4 to 7 and 12: one method for each sentence. */
final class ArraysEdgesTest {
    private static final Checks CHECKS = new Checks("ArraysEdgesTest");
    private static final int LEAST = Integer.MIN_VALUE, GREATEST = Integer.MAX_VALUE;
    private static final String[] SIX = {"a", "b", "c", "d", "e", "f"};

    /** Arrays and places that the scene does not have. */
    private static final int[][] NO_CELLS = {{3, 0, 0, 0}, {6, 0, 0, 0}, {-1, 0, 0, 0}, {GREATEST, 0, 0, 0}, {LEAST, 0, 0, 0},
        {0, 2, 0, 0}, {0, 0, 3, 0}, {0, 0, 0, 2}, {0, -1, 0, 0}, {0, 0, -1, 0}, {0, 0, 0, -1}, {2, 1, 0, 0}, {0, LEAST, 0, 0},
        {0, GREATEST, 0, 0}, {0, 0, LEAST, 0}, {0, 0, GREATEST, 0}, {0, 0, 0, LEAST}, {0, 0, 0, GREATEST}, {0, 1 << 30, 0, 0}};

    /** Arrays and boxes that the scene does not have: from, to. */
    private static final int[][] NO_BOXES = {{3, 0, 0}, {6, 0, 0}, {-1, 0, 0}, {GREATEST, 0, 0}, {LEAST, 0, 0},
        {0, 0, Checks.at(2, 2, 1)}, {0, 0, Checks.at(1, 3, 1)}, {0, 0, Checks.at(1, 2, 2)}, {0, 0, Checks.at(31, 0, 0)},
        {0, 0, Checks.at(0, 31, 0)}, {0, 0, Checks.at(0, 0, 31)}, {0, Checks.at(2, 0, 0), Checks.at(2, 2, 1)},
        {0, Checks.at(0, 3, 0), Checks.at(1, 3, 1)}, {0, Checks.at(0, 0, 2), Checks.at(1, 2, 2)},
        {0, Checks.at(1, 0, 0), Checks.at(0, 2, 1)}, {0, Checks.at(0, 1, 0), Checks.at(1, 0, 1)},
        {0, Checks.at(0, 0, 1), Checks.at(1, 2, 0)}, {0, Checks.at(1, 2, 1), 0}, {0, -1, 0}, {0, 0, -1}, {0, -1, -1},
        {0, 32768, 0}, {0, 32768, Checks.at(1, 2, 1)}, {0, 32768, 32768}, {0, 32768, 32768 + Checks.at(1, 2, 1)}, {0, 0, 32768},
        {0, 0, 32768 + Checks.at(1, 2, 1)}, {0, -32768, 0}, {0, 0, 65536}, {0, LEAST, 0}, {0, 0, GREATEST}, {0, 0, LEAST},
        {0, 1 << 20, 1 << 20}, {2, 0, Checks.at(1, 0, 0)}};

    public static void main(String[] args) {
        numberedFromZero();
        atMostSix();
        namesAreDifferent();
        refusedThenThereThenFull();
        theNameAlone();
        sizesFrom1To24();
        atMost2000Cells();
        placesBelowTheSizes();
        nullAtFirst();
        setTakesEveryInt();
        setOfNoCell();
        fillOfABox();
        fillOfOneCell();
        fillOfTheGreatestArray();
        fillWraps();
        fillOfNoBox();
        wipeCountsWhatWasNotNull();
        wipeOfNoBox();
        getOfNull();
        getOfNoCell();
        getOfNoVersion();
        CHECKS.close();
    }

    private static ArrayVault six() {
        ArrayVault vault = new ArrayVault();
        for (String name : SIX) {
            Checks.make(vault, name, 1, 2, 2);
        }
        return vault;
    }

    /** "numbered from 0 as they are made": a make that fails takes no number. */
    private static void numberedFromZero() {
        ArrayVault vault = new ArrayVault();
        CHECKS.due("the first", Checks.make(vault, "b", 1, 1, 1), 0);
        CHECKS.due("refused", Checks.make(vault, "x", 1, 1, 1), ArrayVault.REFUSED);
        CHECKS.due("there", Checks.make(vault, "b", 1, 1, 1), ArrayVault.THERE);
        CHECKS.due("the second", Checks.make(vault, "a", 1, 1, 1), 1);
        vault.set(0, 0, 0, 0, 10);
        vault.set(1, 0, 0, 0, 11);
        CHECKS.tells(vault, "sum(it) of b", 10);
        CHECKS.tells(vault, "sum(it) of a", 11);
    }

    /** "at most 6"; "then FULL with 6" */
    private static void atMostSix() {
        ArrayVault vault = new ArrayVault();
        for (int i = 0; i < SIX.length; i++) {
            CHECKS.due("make " + SIX[i], Checks.make(vault, SIX[i], 1, 2, 2), i);
            CHECKS.due("arrays", vault.count(0), i + 1);
            vault.set(i, 0, 1, 1, 50 + i);
        }
        State before = State.of(vault);
        CHECKS.due("the seventh", Checks.make(vault, "g", 1, 1, 1), ArrayVault.FULL);
        CHECKS.due("again", Checks.make(vault, "g", 1, 1, 1), ArrayVault.FULL);
        CHECKS.due("set of the seventh", vault.set(6, 0, 0, 0, 1), ArrayVault.NONE);
        CHECKS.unchanged("FULL", vault, before);
        CHECKS.fault(vault, "count of ^g");
        CHECKS.tells(vault, "sum(it) of f", 55);
    }

    /** "names, all different"; "THERE if one has the name" */
    private static void namesAreDifferent() {
        ArrayVault vault = Scene.ready();
        State before = State.of(vault);
        CHECKS.due("a", Checks.make(vault, "a", 1, 1, 1), ArrayVault.THERE);
        CHECKS.due("c", Checks.make(vault, "c", 1, 3, 2), ArrayVault.THERE);
        CHECKS.unchanged("THERE", vault, before);
        CHECKS.due("another", Checks.make(vault, "aa", 1, 1, 1), 3);
        CHECKS.due("one that begins alike", Checks.make(vault, "aaa", 1, 1, 1), 4);
        CHECKS.due("the last of six", Checks.make(vault, "ba", 1, 1, 1), 5);
        ArrayVault alike = new ArrayVault();
        String[] names = {"ab", "ba", "abb", "bab", "aab", "aabbaa"};
        for (int i = 0; i < names.length; i++) {
            CHECKS.due("the same letters: " + names[i], Checks.make(alike, names[i], 1, 1, 1), i);
            alike.set(i, 0, 0, 0, i);
        }
        for (int i = 0; i < names.length; i++) {
            CHECKS.tells(alike, "sum(it) of " + names[i], i);
            CHECKS.due("again: " + names[i], Checks.make(alike, names[i], 1, 1, 1), ArrayVault.THERE);
        }
    }

    /** "REFUSED for another name or sizes; then THERE if one has the name; then FULL with 6" */
    private static void refusedThenThereThenFull() {
        ArrayVault vault = six();
        State before = State.of(vault);
        CHECKS.due("all three: sizes", Checks.make(vault, "f", 1, 25, 1), ArrayVault.REFUSED);
        CHECKS.due("refused and full: name", Checks.make(vault, "by", 1, 1, 1), ArrayVault.REFUSED);
        CHECKS.due("refused and full: sizes", Checks.make(vault, "g", 0, 1, 1), ArrayVault.REFUSED);
        CHECKS.due("refused and full: cells", Checks.make(vault, "g", 24, 24, 24), ArrayVault.REFUSED);
        CHECKS.due("there and full", Checks.make(vault, "f", 1, 1, 1), ArrayVault.THERE);
        CHECKS.due("full", Checks.make(vault, "g", 1, 1, 1), ArrayVault.FULL);
        CHECKS.unchanged("make that fails", vault, before);
        ArrayVault one = Scene.one();
        CHECKS.due("refused and there", Checks.make(one, "a", 1, 1, 25), ArrayVault.REFUSED);
        CHECKS.due("there", Checks.make(one, "a", 1, 1, 24), ArrayVault.THERE);
    }

    /** "the name that the TAPE is (bytes of a NAME alone)" */
    private static void theNameAlone() {
        ArrayVault vault = Scene.ready();
        State before = State.of(vault);
        String[] wrong = {"", " ", "d ", " d", "d e", "d,", "(d)", "d@1", "d\0", "\0d", "1", "d1", "+", "ddddddd", "D", "d#", "#",
            "dddddd ", "d".repeat(600), " ".repeat(600)};
        for (String name : wrong) {
            CHECKS.due("make '" + name + "'", Checks.make(vault, name, 1, 1, 1), ArrayVault.REFUSED);
        }
        CHECKS.unchanged("make of another name", vault, before);
        CHECKS.due("make d", Checks.make(vault, "d", 1, 1, 1), 3);
        CHECKS.due("make dddddd", Checks.make(vault, "dddddd", 1, 1, 1), 4);
    }

    /** "SIZES 1 to 24" */
    private static void sizesFrom1To24() {
        for (int axis = 0; axis < 3; axis++) {
            for (int size : new int[] {LEAST, -24, -1, 0, 1, 2, 24, 25, 32, 256, 65536, GREATEST}) {
                ArrayVault vault = new ArrayVault();
                int[] s = {1, 1, 1};
                s[axis] = size;
                boolean taken = size >= 1 && size <= 24;
                CHECKS.due("size " + size + " of axis " + axis, Checks.make(vault, "a", s[0], s[1], s[2]),
                    taken ? 0 : ArrayVault.REFUSED);
                CHECKS.due("arrays", vault.count(0), taken ? 1 : 0);
                CHECKS.due("cells", vault.count(3), taken ? size : 0);
            }
        }
        int[][] wrong = {{-1, -1, 1}, {-2, 1, -3}, {0, 0, 0}, {-1, -1, -1}, {65536, 65536, 1}, {LEAST, LEAST, LEAST},
            {1 << 11, 1 << 11, 1 << 10}, {25, 25, 1}, {-1, 24, 24}};
        ArrayVault vault = Scene.ready();
        State before = State.of(vault);
        for (int[] s : wrong) {
            CHECKS.due("sizes " + s[0] + " " + s[1] + " " + s[2], Checks.make(vault, "d", s[0], s[1], s[2]), ArrayVault.REFUSED);
        }
        CHECKS.unchanged("make of other sizes", vault, before);
    }

    /** "each array at most 2000 CELLS": no sizes make 2001, 2002 are the first that are refused. */
    private static void atMost2000Cells() {
        int[][] taken = {{20, 20, 5}, {5, 20, 20}, {20, 5, 20}, {10, 10, 20}, {24, 24, 3}, {24, 3, 24}, {3, 24, 24}};
        for (int[] s : taken) {
            ArrayVault vault = new ArrayVault();
            CHECKS.due(s[0] + " by " + s[1] + " by " + s[2], Checks.make(vault, "a", s[0], s[1], s[2]), 0);
            CHECKS.due("cells", vault.count(3), s[0] * s[1] * s[2]);
            CHECKS.due("the last", vault.set(0, s[0] - 1, s[1] - 1, s[2] - 1, 1), 0);
        }
        int[][] refused = {{14, 11, 13}, {11, 13, 14}, {13, 14, 11}, {24, 24, 4}, {24, 4, 24}, {4, 24, 24}, {24, 24, 24},
            {12, 24, 7}};
        for (int[] s : refused) {
            ArrayVault vault = new ArrayVault();
            CHECKS.due(s[0] + " by " + s[1] + " by " + s[2], Checks.make(vault, "a", s[0], s[1], s[2]), ArrayVault.REFUSED);
            CHECKS.due("arrays", vault.count(0), 0);
        }
        ArrayVault six = new ArrayVault();
        for (int i = 0; i < SIX.length; i++) {
            CHECKS.due("each array has its own 2000", Checks.make(six, SIX[i], 20, 20, 5), i);
        }
        CHECKS.due("cells of all", six.count(3), 12000);
    }

    /** "at each place (x, y, z), from 0 to below the sizes" */
    private static void placesBelowTheSizes() {
        ArrayVault vault = new ArrayVault();
        Checks.make(vault, "a", 2, 3, 4);
        for (int x = -1; x <= 2; x++) {
            for (int y = -1; y <= 3; y++) {
                for (int z = -1; z <= 4; z++) {
                    boolean in = x >= 0 && x < 2 && y >= 0 && y < 3 && z >= 0 && z < 4;
                    String place = x + " " + y + " " + z;
                    CHECKS.due("get " + place, vault.get(0, x, y, z, 0), in ? Checks.NULL_CELL : Checks.NO_CELL);
                    CHECKS.due("set " + place, vault.set(0, x, y, z, 100 * x + 10 * y + z), in ? 0 : ArrayVault.NONE);
                }
            }
        }
        for (int i = 0; i < 24; i++) {
            int x = i / 12, y = i / 4 % 3, z = i % 4;
            CHECKS.due("its own", vault.get(0, x, y, z, 0), 100 * x + 10 * y + z);
        }
    }

    /** "an int or NULL, NULL at first" */
    private static void nullAtFirst() {
        ArrayVault vault = new ArrayVault();
        Checks.make(vault, "a", 24, 24, 3);
        CHECKS.due("none is there", vault.count(4), 0);
        CHECKS.due("the first", vault.get(0, 0, 0, 0, 0), Checks.NULL_CELL);
        CHECKS.due("the last", vault.get(0, 23, 23, 2, 0), Checks.NULL_CELL);
        CHECKS.tells(vault, "count of a where null(it)", 1728);
    }

    private static void setTakesEveryInt() {
        ArrayVault vault = Scene.one();
        for (int v : new int[] {0, 1, -1, GREATEST, LEAST, 1 << 30, -2}) {
            CHECKS.due("set " + v, vault.set(0, 0, 0, 0, v), 0);
            CHECKS.due("get " + v, vault.get(0, 0, 0, 0, 0), v);
            CHECKS.due("it is not NULL", vault.count(4), 1);
        }
    }

    /** Promise 5: "NONE if there is no such array or place" */
    private static void setOfNoCell() {
        ArrayVault vault = Scene.ready();
        State before = State.of(vault);
        for (int[] n : NO_CELLS) {
            CHECKS.due("set " + n[0] + ": " + n[1] + " " + n[2] + " " + n[3], vault.set(n[0], n[1], n[2], n[3], 77),
                ArrayVault.NONE);
        }
        CHECKS.unchanged("set of no cell", vault, before);
        CHECKS.due("the last place", vault.set(0, 1, 2, 1, 77), 0);
        CHECKS.due("the last array", vault.set(2, 0, 2, 1, 78), 0);
        CHECKS.due("before any array", new ArrayVault().set(0, 0, 0, 0, 1), ArrayVault.NONE);
    }

    /** Promise 6: "start + dx * x + dy * y + dz * z of their places: how many" */
    private static void fillOfABox() {
        ArrayVault vault = new ArrayVault();
        Checks.make(vault, "a", 3, 4, 5);
        CHECKS.due("fill", vault.fill(0, Checks.at(1, 1, 2), Checks.at(2, 2, 4), 7, 1000, -100, 10), 12);
        for (int x = 0; x < 3; x++) {
            for (int y = 0; y < 4; y++) {
                for (int z = 0; z < 5; z++) {
                    boolean in = x >= 1 && y >= 1 && y <= 2 && z >= 2;
                    CHECKS.due("cell " + x + " " + y + " " + z, vault.get(0, x, y, z, 0),
                        in ? 7 + 1000 * x - 100 * y + 10 * z : Checks.NULL_CELL);
                }
            }
        }
        CHECKS.due("twelve are there", vault.count(4), 12);
    }

    private static void fillOfOneCell() {
        ArrayVault vault = Scene.ready();
        CHECKS.due("the first", vault.fill(2, 0, 0, 5, 1, 1, 1), 1);
        CHECKS.due("its value", vault.get(2, 0, 0, 0, 0), 5);
        int last = Checks.at(1, 2, 1);
        CHECKS.due("the last", vault.fill(0, last, last, 5, 1, 10, 100), 1);
        CHECKS.due("its value", vault.get(0, 1, 2, 1, 0), 126);
        CHECKS.due("what was there is gone", vault.fill(1, last, last, -9, 0, 0, 0), 1);
        CHECKS.due("its value", vault.get(1, 1, 2, 1, 0), -9);
    }

    private static void fillOfTheGreatestArray() {
        ArrayVault vault = new ArrayVault();
        Checks.make(vault, "a", 20, 20, 5);
        Checks.make(vault, "b", 24, 3, 24);
        CHECKS.due("2000", vault.fill(0, 0, Checks.at(19, 19, 4), 0, 1000, 10, 1), 2000);
        CHECKS.due("the last", vault.get(0, 19, 19, 4, 0), 19194);
        CHECKS.due("24", vault.fill(1, Checks.at(23, 2, 0), Checks.at(23, 2, 23), 0, 1, 1, 1), 24);
        CHECKS.due("the last", vault.get(1, 23, 2, 23, 0), 48);
        CHECKS.due("beyond 24", vault.fill(1, 0, Checks.at(24, 2, 23), 0, 0, 0, 0), ArrayVault.NONE);
        CHECKS.due("beyond 24", vault.fill(1, 0, Checks.at(23, 2, 24), 0, 0, 0, 0), ArrayVault.NONE);
        CHECKS.due("all of them", vault.count(4), 2024);
    }

    /** "(wrapping)" */
    private static void fillWraps() {
        ArrayVault vault = new ArrayVault();
        Checks.make(vault, "a", 4, 4, 4);
        int last = Checks.at(3, 3, 3);
        vault.fill(0, 0, last, GREATEST, 1, 0, 0);
        CHECKS.due("the greatest", vault.get(0, 0, 3, 3, 0), GREATEST);
        CHECKS.due("one more", vault.get(0, 1, 0, 0, 0), LEAST);
        vault.fill(0, 0, last, LEAST, 0, -1, 0);
        CHECKS.due("the least", vault.get(0, 3, 0, 3, 0), LEAST);
        CHECKS.due("one less", vault.get(0, 0, 1, 0, 0), GREATEST);
        vault.fill(0, 0, last, 0, 0, 0, GREATEST);
        CHECKS.due("twice the greatest", vault.get(0, 0, 0, 2, 0), -2);
        vault.fill(0, last, last, LEAST, LEAST, LEAST, LEAST);
        CHECKS.due("ten times the least", vault.get(0, 3, 3, 3, 0), 0);
        vault.fill(0, last, last, GREATEST, GREATEST, GREATEST, GREATEST);
        CHECKS.due("ten times the greatest", vault.get(0, 3, 3, 3, 0), -10);
    }

    /**
     * "NONE if there is no such array, or one of the places is not in it, or the second is before the first in an axis";
     * "another number is no place"
     */
    private static void fillOfNoBox() {
        ArrayVault vault = Scene.ready();
        State before = State.of(vault);
        for (int[] n : NO_BOXES) {
            CHECKS.due("fill " + n[0] + " from " + n[1] + " to " + n[2], vault.fill(n[0], n[1], n[2], 77, 0, 0, 0),
                ArrayVault.NONE);
        }
        CHECKS.unchanged("fill of no box", vault, before);
        CHECKS.due("the whole", vault.fill(0, 0, Checks.at(1, 2, 1), 77, 0, 0, 0), 12);
        CHECKS.due("before any array", new ArrayVault().fill(0, 0, 0, 1, 0, 0, 0), ArrayVault.NONE);
    }

    /** Promise 7: "become NULL: how many were not" */
    private static void wipeCountsWhatWasNotNull() {
        ArrayVault vault = Scene.ready();
        int last = Checks.at(1, 2, 1);
        CHECKS.due("of the last, which is NULL", vault.wipe(0, last, last), 0);
        CHECKS.due("of the first", vault.wipe(0, 0, 0), 1);
        CHECKS.due("it is NULL", vault.get(0, 0, 0, 0, 0), Checks.NULL_CELL);
        CHECKS.due("its neighbour is not", vault.get(0, 0, 0, 1, 0), 1);
        vault.set(0, 0, 0, 1, 0);
        CHECKS.due("0 is not NULL", vault.wipe(0, 0, Checks.at(0, 0, 1)), 1);
        CHECKS.due("of the others", vault.wipe(0, 0, last), 9);
        CHECKS.due("of nothing", vault.wipe(0, 0, last), 0);
        CHECKS.due("the other array stays", vault.count(4), 12);
        CHECKS.due("a version stays", vault.get(0, 1, 2, 1, 1), 121);
        CHECKS.due("of an array all NULL", vault.wipe(2, 0, Checks.at(0, 2, 1)), 0);
    }

    /** "NONE as for fill" */
    private static void wipeOfNoBox() {
        ArrayVault vault = Scene.ready();
        State before = State.of(vault);
        for (int[] n : NO_BOXES) {
            CHECKS.due("wipe " + n[0] + " from " + n[1] + " to " + n[2], vault.wipe(n[0], n[1], n[2]), ArrayVault.NONE);
        }
        CHECKS.unchanged("wipe of no box", vault, before);
        CHECKS.due("the whole", vault.wipe(0, 0, Checks.at(1, 2, 1)), 11);
        CHECKS.due("before any array", new ArrayVault().wipe(0, 0, 0), ArrayVault.NONE);
    }

    /** Promise 12: "2^40 if it is NULL" */
    private static void getOfNull() {
        ArrayVault vault = Scene.ready();
        CHECKS.due("of the work", vault.get(0, 1, 2, 1, 0), 1099511627776L);
        CHECKS.due("of a version", vault.get(2, 0, 0, 0, 1), 1099511627776L);
        CHECKS.due("not NULL in a version", vault.get(0, 1, 2, 1, 3), 121);
    }

    /** "2^40 + 1 if there is no such array, place" */
    private static void getOfNoCell() {
        ArrayVault vault = Scene.ready();
        for (int[] n : NO_CELLS) {
            for (int version : new int[] {0, 1, 2}) {
                CHECKS.due("get " + n[0] + ": " + n[1] + " " + n[2] + " " + n[3], vault.get(n[0], n[1], n[2], n[3], version),
                    1099511627777L);
            }
        }
        CHECKS.due("the last place", vault.get(0, 1, 2, 1, 1), 121);
        CHECKS.due("before any array", new ArrayVault().get(0, 0, 0, 0, 0), 1099511627777L);
    }

    /** "or version" */
    private static void getOfNoVersion() {
        ArrayVault vault = Scene.ready();
        for (int version : new int[] {2, 4, 12, 13, -1, LEAST, GREATEST}) {
            CHECKS.due("version " + version, vault.get(0, 0, 0, 0, version), 1099511627777L);
            CHECKS.due("version " + version + " of a NULL", vault.get(2, 0, 0, 0, version), 1099511627777L);
        }
        CHECKS.due("version 1", vault.get(0, 0, 0, 0, 1), 0);
        CHECKS.due("version 3", vault.get(0, 0, 0, 0, 3), -5);
        CHECKS.due("the work", vault.get(0, 0, 0, 0, 0), -5);
    }
}
