import com.sun.management.ThreadMXBean;
import java.lang.management.ManagementFactory;

/** Measures that an object takes its room as it is made, and that no call takes more. */
public final class RoomTest {
    private static final long MOST_BYTES_OF_ONE = 400_000;
    // The bean's own calls may make a little.
    private static final long MOST_BYTES_OF_CALLS = 4_000;

    public static void main(String[] args) {
        ThreadMXBean threads = (ThreadMXBean) ManagementFactory.getThreadMXBean();
        playFullGame(new LaneKeep());
        long start = threads.getCurrentThreadAllocatedBytes();
        LaneKeep land = new LaneKeep();
        long made = threads.getCurrentThreadAllocatedBytes();
        int calls = playFullGame(land);
        long end = threads.getCurrentThreadAllocatedBytes();
        System.out.println("one object: " + (made - start) + " bytes; " + calls + " calls: " + (end - made) + " bytes more");
        if (made - start > MOST_BYTES_OF_ONE || end - made > MOST_BYTES_OF_CALLS) {
            System.exit(1);
        }
    }

    /** Up to 512 calls without an exception, with as many foes, towers, shots, splits and saves as there may be. */
    private static int playFullGame(LaneKeep land) {
        int calls = 0;
        land.addEntry(0, 0);
        land.addExit(9, 7);
        for (int kind = 0; kind < 6; kind++) {
            land.addFoeKind(9 + 30 * kind, 9, 1, 9, 9, kind % 2 == 1);
            if (kind > 0) {
                land.setSplit(kind, kind - 1, 3);
            }
        }
        land.addTowerKind(200, 2, 1, 9, 1);
        land.setEffect(0, 'b', 1, 30);
        land.setJumps(0, 3);
        for (int wave = 0; wave < 8; wave++) {
            land.addWave(5, 20, 1, 0);
        }
        for (int tower = 0; tower < 20; tower++) {
            land.plan(tower / 5, 0, 1 + tower % 7, 1 + tower / 7);
            calls++;
            if (tower % 5 == 4) {
                land.run(1);
                calls++;
            }
        }
        calls += 25;
        land.save();
        for (int wave = 0; wave < 8; wave++) {
            land.callWave();
            calls++;
        }
        while (calls < 500 && !land.isLost()) {
            land.run(200);
            land.coverOf(0);
            land.isSound();
            land.checksum();
            calls += 5;
        }
        land.load(0);
        return calls + 3;
    }
}
