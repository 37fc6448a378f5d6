import java.util.ArrayList;
import java.util.Arrays;
import java.util.HashSet;
import java.util.List;
import java.util.Set;
import java.util.TreeSet;

/**
 * The document once more, as slowly and literally as can be: each question is answered by doing
 * what its promise says on a copy of the drill. It throws where the document says so.
 */
final class Model {
    static final int NONE = -1;

    static final class Drill {
        String name;
        int width;
        int radius;
        boolean control;
        int position = NONE;
        int passes;
        int cost;
        int[][] kind;
        int[][] times;

        Drill copy() {
            Drill other = new Drill();
            other.name = name;
            other.width = width;
            other.radius = radius;
            other.control = control;
            other.position = position;
            other.passes = passes;
            other.cost = cost;
            other.kind = deep(kind);
            other.times = deep(times);
            return other;
        }

        private static int[][] deep(int[][] rows) {
            int[][] copy = new int[rows.length][];
            for (int k = 0; k < rows.length; k++) {
                copy[k] = rows[k].clone();
            }
            return copy;
        }
    }

    int rows;
    int columns;
    int turn = 5;
    int lift = 2;
    int hand = 3;
    int clear = 8;
    int unsownWeight = 10;
    int overlapWeight = 3;
    List<Drill> drills = new ArrayList<>();
    List<List<Drill>> past = new ArrayList<>();

    // ---- the parameters

    Drill drill(int index) {
        if (index < 0 || index >= drills.size()) {
            throw new IndexOutOfBoundsException();
        }
        return drills.get(index);
    }

    Drill withCell(int index, int row, int column) {
        Drill d = drill(index);
        if (row < 0 || row >= rows || column < 0 || column >= columns) {
            throw new IndexOutOfBoundsException();
        }
        return d;
    }

    Drill withTop(int index, int top) {
        Drill d = drill(index);
        if (top < 0 || top > rows - d.width) {
            throw new IndexOutOfBoundsException();
        }
        return d;
    }

    void needWidth(int width) {
        if (width < 1 || width > 8 || width > rows) {
            throw new IllegalArgumentException();
        }
    }

    // ---- fields

    boolean isUnsown(Drill d, int row, int column) {
        return d.kind[row][column] == 0 && d.times[row][column] == 0;
    }

    int count(Drill d, int kind) {
        int count = 0;
        for (int[] row : d.kind) {
            for (int k : row) {
                count += k == kind ? 1 : 0;
            }
        }
        return count;
    }

    int unsown(Drill d) {
        int count = 0;
        for (int row = 0; row < rows; row++) {
            for (int column = 0; column < columns; column++) {
                count += isUnsown(d, row, column) ? 1 : 0;
            }
        }
        return count;
    }

    int overlap(Drill d) {
        int sum = 0;
        for (int[] row : d.times) {
            for (int t : row) {
                sum += t > 1 ? t - 1 : 0;
            }
        }
        return sum;
    }

    int mostSown(Drill d) {
        int most = 0;
        for (int[] row : d.times) {
            for (int t : row) {
                most = Math.max(most, t);
            }
        }
        return most;
    }

    /** The sizes of the sets of connected cells, by merging labels until nothing changes. */
    List<Integer> sets(boolean[][] member) {
        int[][] label = new int[rows][columns];
        for (int row = 0; row < rows; row++) {
            for (int column = 0; column < columns; column++) {
                label[row][column] = row * columns + column;
            }
        }
        boolean changed = true;
        while (changed) {
            changed = false;
            for (int row = 0; row < rows; row++) {
                for (int column = 0; column < columns; column++) {
                    for (int[] n : neighbours(row, column)) {
                        if (member[row][column] && member[n[0]][n[1]] && label[n[0]][n[1]] < label[row][column]) {
                            label[row][column] = label[n[0]][n[1]];
                            changed = true;
                        }
                    }
                }
            }
        }
        int[] size = new int[rows * columns];
        for (int row = 0; row < rows; row++) {
            for (int column = 0; column < columns; column++) {
                size[label[row][column]] += member[row][column] ? 1 : 0;
            }
        }
        List<Integer> found = new ArrayList<>();
        for (int s : size) {
            if (s > 0) {
                found.add(s);
            }
        }
        return found;
    }

    List<int[]> neighbours(int row, int column) {
        List<int[]> found = new ArrayList<>();
        for (int r = 0; r < rows; r++) {
            for (int c = 0; c < columns; c++) {
                if (Math.abs(r - row) + Math.abs(c - column) == 1) {
                    found.add(new int[] {r, c});
                }
            }
        }
        return found;
    }

    boolean[][] stones(Drill d) {
        boolean[][] member = new boolean[rows][columns];
        for (int row = 0; row < rows; row++) {
            for (int column = 0; column < columns; column++) {
                member[row][column] = d.kind[row][column] == 1;
            }
        }
        return member;
    }

    boolean[][] unsownCells(Drill d) {
        boolean[][] member = new boolean[rows][columns];
        for (int row = 0; row < rows; row++) {
            for (int column = 0; column < columns; column++) {
                member[row][column] = isUnsown(d, row, column);
            }
        }
        return member;
    }

    int largest(List<Integer> sizes) {
        int largest = 0;
        for (int s : sizes) {
            largest = Math.max(largest, s);
        }
        return largest;
    }

    int largestRectangle(Drill d) {
        int best = 0;
        for (int r1 = 0; r1 < rows; r1++) {
            for (int c1 = 0; c1 < columns; c1++) {
                for (int r2 = r1; r2 < rows; r2++) {
                    for (int c2 = c1; c2 < columns; c2++) {
                        int size = (r2 - r1 + 1) * (c2 - c1 + 1);
                        if (size > best && allSoil(d, r1, c1, r2, c2)) {
                            best = size;
                        }
                    }
                }
            }
        }
        return best;
    }

    private boolean allSoil(Drill d, int r1, int c1, int r2, int c2) {
        for (int row = r1; row <= r2; row++) {
            for (int column = c1; column <= c2; column++) {
                if (d.kind[row][column] != 0) {
                    return false;
                }
            }
        }
        return true;
    }

    int longestUnsownRun(Drill d, int row) {
        StringBuilder text = new StringBuilder();
        for (int column = 0; column < columns; column++) {
            text.append(isUnsown(d, row, column) ? 'u' : ' ');
        }
        int longest = 0;
        for (String run : text.toString().split(" ")) {
            longest = Math.max(longest, run.length());
        }
        return longest;
    }

    int emptiestRow(Drill d) {
        int best = NONE;
        int most = 0;
        for (int row = rows - 1; row >= 0; row--) {
            int count = 0;
            for (int column = 0; column < columns; column++) {
                count += isUnsown(d, row, column) ? 1 : 0;
            }
            if (count > 0 && count >= most) {
                most = count;
                best = row;
            }
        }
        return best;
    }

    int unsownInColumn(Drill d, int column) {
        int count = 0;
        for (int row = 0; row < rows; row++) {
            count += isUnsown(d, row, column) ? 1 : 0;
        }
        return count;
    }

    int stepsToUnsown(Drill d, int row, int column) {
        Set<Integer> now = new HashSet<>();
        now.add(row * columns + column);
        for (int steps = 0; steps <= rows * columns; steps++) {
            for (int cell : now) {
                if (isUnsown(d, cell / columns, cell % columns)) {
                    return steps;
                }
            }
            Set<Integer> next = new HashSet<>(now);
            for (int cell : now) {
                for (int[] n : neighbours(cell / columns, cell % columns)) {
                    if (d.kind[n[0]][n[1]] != 1) {
                        next.add(n[0] * columns + n[1]);
                    }
                }
            }
            now = next;
        }
        return NONE;
    }

    // ---- passes

    boolean lowered(Drill d, int top, int column) {
        boolean soil = false;
        boolean stone = false;
        for (int row = top; row <= top + d.width - 1; row++) {
            soil = soil || d.kind[row][column] == 0;
            stone = stone || d.kind[row][column] == 1;
        }
        return d.control ? soil : !stone;
    }

    int lowerings(Drill d, int top) {
        int count = 0;
        for (int column = 0; column < columns; column++) {
            if (lowered(d, top, column) && (column == 0 || !lowered(d, top, column - 1))) {
                count++;
            }
        }
        return count;
    }

    boolean sows(Drill d, int top, int row, int column) {
        return row >= top && row < top + d.width && d.kind[row][column] == 0 && lowered(d, top, column);
    }

    int turnCost(Drill d, int a, int b) {
        int apart = a > b ? a - b : b - a;
        if (apart >= 2 * d.radius) {
            return turn + apart;
        }
        return turn + 4 * d.radius - apart;
    }

    int passCost(Drill d, int top) {
        return columns + lift * lowerings(d, top) + (d.position == NONE ? 0 : turnCost(d, d.position, top));
    }

    /** Makes the pass on this drill; answers the cells sown for the first time and again. */
    int[] make(Drill d, int top) {
        int[] sown = new int[2];
        d.cost += passCost(d, top);
        for (int row = 0; row < rows; row++) {
            for (int column = 0; column < columns; column++) {
                if (sows(d, top, row, column)) {
                    sown[d.times[row][column] == 0 ? 0 : 1]++;
                    d.times[row][column]++;
                }
            }
        }
        d.position = top;
        d.passes++;
        return sown;
    }

    int bestTop(Drill d) {
        int best = NONE;
        int[] bestSown = null;
        for (int top = 0; top <= rows - d.width; top++) {
            int[] sown = make(d.copy(), top);
            if (sown[0] > 0 && (bestSown == null || sown[0] > bestSown[0]
                || sown[0] == bestSown[0] && sown[1] < bestSown[1])) {
                best = top;
                bestSown = sown;
            }
        }
        return best;
    }

    int reachedBy(Drill d, int row, int column) {
        int set = 0;
        for (int top = 0; top <= rows - d.width; top++) {
            if (sows(d, top, row, column)) {
                set += 1 << top;
            }
        }
        return set;
    }

    int outOfReach(Drill d) {
        int count = 0;
        for (int row = 0; row < rows; row++) {
            for (int column = 0; column < columns; column++) {
                count += isUnsown(d, row, column) && reachedBy(d, row, column) == 0 ? 1 : 0;
            }
        }
        return count;
    }

    int stoneToClear(Drill d) {
        int best = NONE;
        int least = Integer.MAX_VALUE;
        for (int cell = 0; cell < rows * columns; cell++) {
            if (d.kind[cell / columns][cell % columns] == 1) {
                Drill after = d.copy();
                after.kind[cell / columns][cell % columns] = 0;
                if (outOfReach(after) < least) {
                    least = outOfReach(after);
                    best = cell;
                }
            }
        }
        return best;
    }

    // ---- plans

    private Drill afterSet(Drill d, int set) {
        Drill after = d.copy();
        for (int top = 0; top <= rows - d.width; top++) {
            if ((set >> top & 1) == 1) {
                make(after, top);
            }
        }
        return after;
    }

    int plan(Drill d) {
        int due = unsown(d) - outOfReach(d);
        int best = NONE;
        int bestOverlap = 0;
        for (int set = 0; set < 1 << rows - d.width + 1; set++) {
            Drill after = afterSet(d, set);
            if (unsown(d) - unsown(after) != due) {
                continue;
            }
            int overlap = overlap(after);
            if (best == NONE || overlap < bestOverlap
                || overlap == bestOverlap && Integer.bitCount(set) < Integer.bitCount(best)) {
                best = set;
                bestOverlap = overlap;
            }
        }
        return best;
    }

    int planOverlap(Drill d) {
        return overlap(afterSet(d, plan(d)));
    }

    private int leastSum;
    private int[] leastOrder;

    int[] bestOrder(Drill d) {
        TreeSet<Integer> tops = new TreeSet<>();
        int set = plan(d);
        for (int top = 0; top < 12; top++) {
            if ((set >> top & 1) == 1) {
                tops.add(top);
            }
        }
        leastSum = Integer.MAX_VALUE;
        leastOrder = new int[0];
        tryOrders(d, tops, d.position, 0, new int[tops.size()]);
        return leastOrder;
    }

    /** All orders, the lexicographically smallest ones first. */
    private void tryOrders(Drill d, TreeSet<Integer> left, int position, int sum, int[] order) {
        if (sum >= leastSum) {
            return;
        }
        if (left.isEmpty()) {
            leastSum = sum;
            leastOrder = order.clone();
            return;
        }
        for (int top : new ArrayList<>(left)) {
            TreeSet<Integer> rest = new TreeSet<>(left);
            rest.remove(top);
            order[order.length - left.size()] = top;
            tryOrders(d, rest, top, sum + (position == NONE ? 0 : turnCost(d, position, top)), order);
        }
    }

    int planTurns(Drill d) {
        bestOrder(d);
        return leastSum;
    }

    int planTop(Drill d, int k) {
        int[] order = bestOrder(d);
        return k < 0 || k >= order.length ? NONE : order[k];
    }

    int passesWithWidth(Drill d, int width) {
        Drill other = d.copy();
        other.width = width;
        return Integer.bitCount(plan(other));
    }

    int[] greedy(Drill d) {
        Drill after = d.copy();
        int count = 0;
        while (bestTop(after) != NONE) {
            make(after, bestTop(after));
            count++;
        }
        return new int[] {count, overlap(after)};
    }

    int costToFinish(Drill d) {
        Drill after = d.copy();
        for (int top : bestOrder(d)) {
            make(after, top);
        }
        for (int row = 0; row < rows; row++) {
            for (int column = 0; column < columns; column++) {
                if (isUnsown(after, row, column)) {
                    after.times[row][column]++;
                    after.cost += hand;
                }
            }
        }
        return after.cost - d.cost;
    }

    // ---- ranking

    int score(Drill d) {
        return d.cost + unsownWeight * unsown(d) + overlapWeight * overlap(d);
    }

    List<Integer> ranking() {
        List<Integer> order = new ArrayList<>();
        for (int k = 0; k < drills.size(); k++) {
            order.add(k);
        }
        order.sort((a, b) -> Integer.compare(score(drills.get(a)), score(drills.get(b))));
        return order;
    }

    // ---- actions

    void remember() {
        List<Drill> now = new ArrayList<>();
        for (Drill d : drills) {
            now.add(d.copy());
        }
        past.add(now);
        if (past.size() > 12) {
            past.remove(0);
        }
    }

    int undo() {
        if (past.isEmpty()) {
            return NONE;
        }
        drills = past.remove(past.size() - 1);
        return past.size();
    }

    // ---- texts

    String format(Drill d) {
        return d.name + " w" + d.width + " r" + d.radius + (d.control ? " cs" : "") + " $" + d.cost + " "
            + unsown(d) + "/" + overlap(d);
    }

    String formatRow(Drill d, int row) {
        StringBuilder text = new StringBuilder();
        for (int column = 0; column < columns; column++) {
            int times = Math.min(9, d.times[row][column]);
            String soil = times == 0 ? "." : Integer.toString(times);
            text.append(Arrays.asList(soil, "#", "~").get(d.kind[row][column]));
        }
        return text.toString();
    }
}
