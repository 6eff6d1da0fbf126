import java.lang.management.ManagementFactory;

/**
 * All calls of a run live in one room of some 600,000 objects: an object makes its rows once, and
 * no call makes any. What is measured is the bytes that this thread asked for.
 */
public final class RoomTest {
    private static final int CALLS = 500;
    private static final long FEW_BYTES = 16_384;

    private RoomTest() {
    }

    public static void main(String[] args) {
        GroupTables tables = new GroupTables();
        for (int group = 0; group < 6; group++) {
            tables.addGroup(5);
        }
        for (int seat = 1; seat < 5; seat++) {
            for (int other = seat + 1; other < 5; other++) {
                tables.setResult(seat, other, 1, 1);
            }
        }
        tables.setResult(0, 4, 1, 1);
        few("waysSafe", tables, () -> tables.waysSafe(5));
        few("waysLost", tables, () -> tables.waysLost(9));
        few("badWay", tables, () -> tables.badWay(5));
        few("scoresThrough", tables, () -> tables.scoresThrough(0));
        few("isThrough", tables, () -> tables.isThrough(2) ? 1 : 0);
        few("thirdRank", tables, () -> tables.thirdRank(3));
        few("rule", tables, () -> tables.rule(1, 2));
        few("setResult", tables, () -> tables.setResult(5, 6, 1, 1));
        long before = bytes();
        new GroupTables();
        long used = bytes() - before;
        Check.due("a new object takes " + used + " bytes", used < FEW_BYTES, true);
        Check.end("RoomTest");
    }

    private static void few(String what, GroupTables tables, Check.Call call) {
        call.answer();
        long before = bytes();
        for (int made = 0; made < CALLS; made++) {
            call.answer();
        }
        long used = bytes() - before;
        Check.due(CALLS + " calls of " + what + " take " + used + " bytes", used < FEW_BYTES, true);
    }

    private static long bytes() {
        var threads = (com.sun.management.ThreadMXBean) ManagementFactory.getThreadMXBean();
        return threads.getThreadAllocatedBytes(Thread.currentThread().getId());
    }
}
