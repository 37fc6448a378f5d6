import com.sun.management.ThreadMXBean;
import java.lang.management.ManagementFactory;

/**
 * All objects of a run live in one room, so calls must not make new ones again and again: 512
 * calls of the dearest kind may take some kilobytes, as may a new object.
 */
public final class RoomTest {
    private static final Check check = new Check();
    private static final ThreadMXBean THREADS = (ThreadMXBean) ManagementFactory.getThreadMXBean();
    private static int sink = 0;

    public static void main(String[] args) {
        // The first round loads classes; only the second one counts.
        for (int round = 0; round < 2; round++) {
            boolean counts = round == 1;
            measure(counts, "new objects", 512 * 64_000L, () -> new DrillContest().drillCount());
            for (String text : new String[] {"field 12 24;drill a 1 3;drill b 1 0;", "field 12 24;stone 6 6;drill a 2 3;drill b 2 0;"}) {
                DrillContest x = Check.loaded(text);
                measure(counts, "planTurns", 600_000, () -> x.planTurns(0) + x.planTurns(1));
                measure(counts, "costToFinish", 600_000, () -> x.costToFinish(0));
                measure(counts, "greedyOverlap", 16_000, () -> x.greedyOverlap(0));
                measure(counts, "stoneToClear", 16_000, () -> x.stoneToClear(0));
                measure(counts, "passesWithWidth", 16_000, () -> x.passesWithWidth(0, 1));
                measure(counts, "largestRectangle", 16_000, () -> x.largestRectangle(0));
                measure(counts, "unsownRegions", 16_000, () -> x.unsownRegions(0));
                measure(counts, "format", 16_000, () -> x.format(0) + x.formatRow(0, 0));
                measure(counts, "pass", 16_000, () -> x.pass(0, 1) + x.undo());
            }
        }
        check.same("used", sink != 1, true);
        check.close("RoomTest");
    }

    private interface Call {
        int get();
    }

    private static void measure(boolean counts, String what, long most, Call call) {
        long before = THREADS.getThreadAllocatedBytes(Thread.currentThread().getId());
        for (int k = 0; k < 512; k++) {
            sink += call.get();
        }
        long bytes = THREADS.getThreadAllocatedBytes(Thread.currentThread().getId()) - before;
        if (counts) {
            check.same(what + " takes " + bytes + " bytes, too many", bytes <= most, true);
        }
    }
}
