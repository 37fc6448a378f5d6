import java.util.Arrays;
import java.util.Random;

/**
 * Promises 47 to 50, 54 and 60 for drills with many top rows, where the model of ModelTest, which
 * tries all orders, would take too long. The plan is found here by making the passes of each set,
 * the order from the front: for each set and last pass the cheapest way there, of equals the
 * lexicographically smallest. (The program goes from the back.)
 */
public final class LargePlanTest {
    private static final Check check = new Check();

    private final DrillContest x;
    private final int rows;
    private final int columns;
    private final int tops;
    private int[][] reach;
    private int[][] times;
    private int bestSet = 0;
    private int bestOverlap = 0;
    private int bestTurns = 0;
    private int[] bestOrder = {};

    private LargePlanTest(DrillContest x) {
        this.x = x;
        rows = x.rowCount();
        columns = x.columnCount();
        tops = x.topCount(0);
    }

    public static void main(String[] args) {
        int runs = args.length > 0 ? Integer.parseInt(args[0]) : 60;
        int seed = args.length > 1 ? Integer.parseInt(args[1]) : 1;
        Random random = new Random(seed);
        for (int k = 0; k < runs; k++) {
            DrillContest x = Check.loaded(text(random));
            for (int before = random.nextInt(4); before > 0; before--) {
                x.pass(0, random.nextInt(x.topCount(0)));
            }
            new LargePlanTest(x).compare("run " + k);
        }
        check.close("LargePlanTest");
    }

    private static String text(Random random) {
        int rows = 8 + random.nextInt(5);
        int columns = 1 + random.nextInt(random.nextBoolean() ? 3 : 24);
        int width = 1 + random.nextInt(Math.min(3, rows - 7));
        StringBuilder text = new StringBuilder("field " + rows + " " + columns + ";");
        text.append("drill a ").append(width).append(" ").append(random.nextInt(random.nextBoolean() ? 4 : 10))
            .append(random.nextBoolean() ? "control;" : ";");
        text.append("turn ").append(random.nextInt(3) * 7).append(";");
        for (int k = random.nextInt(3); k > 0; k--) {
            int row = random.nextInt(rows);
            text.append("wet ").append(row).append(" 0 ").append(row).append(" ").append(random.nextInt(columns)).append(";");
        }
        for (int k = random.nextInt(20); k > 0; k--) {
            text.append("stone ").append(random.nextInt(rows)).append(" ").append(random.nextInt(columns)).append(";");
        }
        return text.toString();
    }

    private void compare(String run) {
        ask();
        choose();
        arrange();
        check.same(run + " plan", x.plan(0), bestSet);
        check.same(run + " planOverlap", x.planOverlap(0), bestOverlap);
        check.same(run + " planTurns", x.planTurns(0), bestTurns);
        int passes = 0;
        for (int k = 0; k < bestOrder.length; k++) {
            check.same(run + " planTop " + k, x.planTop(0, k), bestOrder[k]);
            passes += columns + 2 * x.lowerings(0, bestOrder[k]);
        }
        check.same(run + " planTop behind the last", x.planTop(0, bestOrder.length), DrillContest.NONE);
        int reached = x.unsown(0) - x.outOfReach(0);
        check.same(run + " costToFinish", x.costToFinish(0), passes + bestTurns + 3 * x.outOfReach(0));
        if (bestSet == 0) {
            check.same(run + " nothing to reach", reached, 0);
            check.badState(run + " carryOutPlan", () -> x.carryOutPlan(0));
            return;
        }
        int cost = x.cost(0);
        int made = x.passCount(0);
        int left = x.outOfReach(0);
        check.same(run + " carryOutPlan", x.carryOutPlan(0), bestOrder.length);
        check.same(run + " its cost", x.cost(0) - cost, passes + bestTurns);
        check.same(run + " its passes", x.passCount(0) - made, bestOrder.length);
        check.same(run + " its overlap", x.overlap(0), bestOverlap);
        check.same(run + " what is left", x.unsown(0), left);
        check.same(run + " its end", x.position(0), bestOrder[bestOrder.length - 1]);
    }

    private void choose() {
        int fewest = -1;
        for (int set = 0; set < 1 << tops; set++) {
            int overlap = overlapAfter(set);
            int passes = Integer.bitCount(set);
            if (overlap >= 0 && (fewest < 0 || overlap < bestOverlap || overlap == bestOverlap && passes < fewest)) {
                bestSet = set;
                bestOverlap = overlap;
                fewest = passes;
            }
        }
    }

    /** The overlap after the passes of the set; -1 if a cell that could be sown is not. */
    private int overlapAfter(int set) {
        int overlap = 0;
        for (int row = 0; row < rows; row++) {
            for (int column = 0; column < columns; column++) {
                int now = times[row][column];
                int then = now + Integer.bitCount(set & reach[row][column]);
                if (then == 0 && reach[row][column] != 0) {
                    return -1;
                }
                overlap += Math.max(0, then - 1);
            }
        }
        return overlap;
    }

    private void ask() {
        reach = new int[rows][columns];
        times = new int[rows][columns];
        for (int row = 0; row < rows; row++) {
            for (int column = 0; column < columns; column++) {
                reach[row][column] = x.reachedBy(0, row, column);
                times[row][column] = x.timesSown(0, row, column);
            }
        }
    }

    // ---- the order, from the front

    private void arrange() {
        int[][] cost = new int[1 << tops][tops];
        int[][][] way = new int[1 << tops][tops][];
        for (int set = 1; set < 1 << tops; set++) {
            if ((set & ~bestSet) == 0) {
                for (int last = 0; last < tops; last++) {
                    if ((set >> last & 1) != 0) {
                        extend(cost, way, set, last);
                    }
                }
            }
        }
        for (int last = 0; last < tops; last++) {
            int[] order = way[bestSet][last];
            if (order != null && better(cost[bestSet][last], order, bestTurns, bestOrder)) {
                bestTurns = cost[bestSet][last];
                bestOrder = order;
            }
        }
    }

    private void extend(int[][] cost, int[][][] way, int set, int last) {
        int before = set & ~(1 << last);
        if (before == 0) {
            cost[set][last] = x.position(0) == DrillContest.NONE ? 0 : x.turnCost(0, x.position(0), last);
            way[set][last] = new int[] {last};
            return;
        }
        for (int from = 0; from < tops; from++) {
            if ((before >> from & 1) != 0) {
                int sum = cost[before][from] + x.turnCost(0, from, last);
                int[] order = Arrays.copyOf(way[before][from], way[before][from].length + 1);
                order[order.length - 1] = last;
                if (way[set][last] == null || better(sum, order, cost[set][last], way[set][last])) {
                    cost[set][last] = sum;
                    way[set][last] = order;
                }
            }
        }
    }

    private static boolean better(int cost, int[] order, int otherCost, int[] other) {
        return other.length == 0 || cost < otherCost || cost == otherCost && Arrays.compare(order, other) < 0;
    }
}
