import com.sun.management.ThreadMXBean;
import java.lang.management.ManagementFactory;

/** All calls of one run live in one room, so what an object makes in its 512 calls is kept small. */
final class RoomTest {
    private static final ThreadMXBean THREADS = (ThreadMXBean) ManagementFactory.getThreadMXBean();

    public static void main(String[] args) {
        Checks checks = new Checks("RoomTest");
        commits(new ArrayVault());
        queries(new ArrayVault());
        // 13 layers of 6 arrays of 2000 cells, 8 bytes each, and the rows that every object has.
        checks.due("commits", Math.max(1_400_000, bytesOf(true)), 1_400_000);
        checks.due("queries", Math.max(400_000, bytesOf(false)), 400_000);
        checks.close();
    }

    private static long bytesOf(boolean commits) {
        long before = THREADS.getCurrentThreadAllocatedBytes();
        ArrayVault vault = new ArrayVault();
        if (commits) {
            commits(vault);
        } else {
            queries(vault);
        }
        return THREADS.getCurrentThreadAllocatedBytes() - before;
    }

    private static void commits(ArrayVault vault) {
        for (int i = 0; i < 6; i++) {
            vault.feed(('a' + i) << 24, 0, 0, 0, 0);
            vault.end(1);
            vault.make(20, 20, 5);
        }
        for (int i = 1; i <= 240; i++) {
            vault.commit();
            vault.drop(i - 11);
        }
    }

    private static void queries(ArrayVault vault) {
        vault.feed('a' << 24, 0, 0, 0, 0);
        vault.end(1);
        vault.make(20, 20, 5);
        for (int i = 0; i < 120; i++) {
            vault.feed(0x73756d28, 0x6974292c, 0x20636f75, 0x6e74206f, 0x66206120);
            vault.feed(0x77686572, 0x65206974, 0x203d2031, 0x20627920, 0x78202020);
            vault.query();
            vault.cell(0, 1);
        }
    }
}
