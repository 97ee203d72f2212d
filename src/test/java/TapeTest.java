/** Promises 2 and 3, and what the calls that read the tape leave of it. */
final class TapeTest {
    public static void main(String[] args) {
        Checks checks = new Checks("TapeTest");
        feed(checks);
        end(checks);
        emptied(checks);
        checks.close();
    }

    private static void feed(Checks checks) {
        ArrayVault vault = new ArrayVault();
        for (int i = 1; i <= 30; i++) {
            checks.due("feed " + i, vault.feed(0, 0, 0, 0, 0), 20L * i);
        }
        checks.due("feed beyond 600", vault.feed(0, 0, 0, 0, 0), ArrayVault.FULL);
        checks.due("a full tape stays", vault.end(600), 600);
        checks.due("cut to 581", vault.end(581), 581);
        checks.due("feed to 601", vault.feed(0, 0, 0, 0, 0), ArrayVault.FULL);
        checks.due("cut to 580", vault.end(580), 580);
        checks.due("feed to 600", vault.feed(0, 0, 0, 0, 0), 600);

        ArrayVault order = new ArrayVault();
        order.feed(0x61626364, 0x65660000, 0, 0, 0);
        order.end(6);
        checks.due("the highest byte is first", order.make(1, 1, 1), 0);
        checks.tells(order, "count of abcdef", 1);

        ArrayVault all = new ArrayVault();
        all.feed(0x636f756e, 0x74202020, 0x20206f66, 0x20202020, 0x20206162);
        all.feed(0x63202020, 0x20202020, 0x20202020, 0x20202020, 0x20202020);
        checks.due("all five numbers come", all.query(), 18);

        ArrayVault high = new ArrayVault();
        high.feed(0xe1000000, 0, 0, 0, 0);
        high.end(1);
        checks.due("a byte above 127 is no letter", high.make(1, 1, 1), ArrayVault.REFUSED);
    }

    private static void end(Checks checks) {
        ArrayVault vault = new ArrayVault();
        checks.due("end of nothing", vault.end(0), 0);
        checks.due("end beyond nothing", vault.end(1), ArrayVault.REFUSED);
        checks.due("end below 0", vault.end(-1), ArrayVault.REFUSED);
        vault.feed(0, 0, 0, 0, 0);
        checks.due("end at all", vault.end(20), 20);
        checks.due("end beyond", vault.end(21), ArrayVault.REFUSED);
        checks.due("end far below", vault.end(Integer.MIN_VALUE), ArrayVault.REFUSED);
        checks.due("end far beyond", vault.end(Integer.MAX_VALUE), ArrayVault.REFUSED);
        checks.due("end within", vault.end(3), 3);
        checks.due("what was cut is gone", vault.end(4), ArrayVault.REFUSED);
        checks.due("feed goes on behind the cut", vault.feed(0, 0, 0, 0, 0), 23);
    }

    private static void emptied(Checks checks) {
        ArrayVault vault = new ArrayVault();
        Checks.make(vault, "a", 1, 1, 1);
        checks.due("make empties", vault.end(1), ArrayVault.REFUSED);
        Checks.make(vault, "a", 1, 1, 1);
        checks.due("make that finds it there empties", vault.end(1), ArrayVault.REFUSED);
        Checks.make(vault, "b", 0, 1, 1);
        checks.due("make that refuses empties", vault.end(1), ArrayVault.REFUSED);
        Checks.ask(vault, "count of a");
        checks.due("query empties", vault.end(1), ArrayVault.REFUSED);
        Checks.ask(vault, "count of b");
        checks.due("query with a fault empties", vault.end(1), ArrayVault.REFUSED);
        for (String name : new String[] {"b", "c", "d", "e", "f", "g"}) {
            Checks.make(vault, name, 1, 1, 1);
        }
        checks.due("make that is full empties", vault.end(1), ArrayVault.REFUSED);
        Checks.write(vault, "count of a");
        vault.set(0, 0, 0, 0, 1);
        vault.commit();
        vault.rows();
        vault.count(3);
        checks.due("other calls leave it", vault.end(10), 10);
    }
}
