import java.util.List;
import java.util.Random;

/** Runs of calls drawn from a fixed seed, each answer held against the model's. */
public final class ModelTest {
    private static final Check check = new Check();
    private static final int METHODS = 60;
    // The model tries all sets and orders of passes, so it is asked for plans of few top rows only.
    private static final int MAX_TOPS = 7;

    private interface Answer {
        int get();
    }

    private final Random random;
    private final DrillContest x = new DrillContest();
    private Model model = new Model();
    private int errorOffset = -1;
    private int errorKind = 0;
    private String formatted = "";
    private String text = "";

    private ModelTest(long seed) {
        random = new Random(seed);
    }

    public static void main(String[] args) {
        int runs = args.length > 0 ? Integer.parseInt(args[0]) : 700;
        int seed = args.length > 1 ? Integer.parseInt(args[1]) : 1;
        for (int k = 0; k < runs; k++) {
            new ModelTest(seed * 1000003L + k).run();
        }
        textsAlone(runs * 60, seed);
        check.close("ModelTest");
    }

    private void run() {
        load(goodText(random));
        for (int k = 0; k < 90; k++) {
            int choice = random.nextInt(METHODS + 24);
            if (choice == 0 && random.nextInt(3) == 0) {
                load(random.nextBoolean() ? goodText(random) : spoiled(random, goodText(random)));
            } else if (choice < METHODS) {
                question(choice, index(), cell(model.rows), cell(model.columns));
            } else {
                action(choice % 8, index(), cell(model.rows), cell(model.columns));
            }
        }
    }

    private int index() {
        int count = model.drills.size();
        return random.nextInt(12) == 0 ? random.nextInt(7) - 1 : random.nextInt(Math.max(1, count));
    }

    private int cell(int limit) {
        return random.nextInt(12) == 0 ? random.nextInt(30) - 3 : random.nextInt(limit + 1);
    }

    private boolean tooManyTops(int width) {
        return width > 0 && model.rows - width + 1 > MAX_TOPS;
    }

    // ---- texts

    private static String goodText(Random random) {
        boolean large = random.nextInt(6) == 0;
        int rows = large ? 12 - random.nextInt(4) : 1 + random.nextInt(MAX_TOPS);
        int columns = large ? 24 - random.nextInt(9) : 1 + random.nextInt(8);
        int leastWidth = Math.max(1, rows - MAX_TOPS + 1);
        StringBuilder text = new StringBuilder("field " + rows + " " + columns + ";");
        int drills = random.nextInt(8) == 0 ? random.nextInt(5) : 1 + random.nextInt(4);
        int stones = random.nextInt(2) * random.nextInt(Math.min(30, rows * columns / 3 + 2));
        int wets = random.nextInt(4);
        for (int k = 0; k < drills; k++) {
            int width = leastWidth + random.nextInt(Math.min(8, rows) - leastWidth + 1);
            text.append("drill ").append("abcdefgh".substring(k, k + 1 + random.nextInt(4))).append(" ").append(width)
                .append(" ").append(random.nextInt(random.nextBoolean() ? 10 : 3))
                .append(random.nextBoolean() ? " control;" : ";");
        }
        for (int k = 0; k < stones || k < wets; k++) {
            if (k < wets) {
                int r = random.nextInt(rows);
                int c = random.nextInt(columns);
                text.append("wet ").append(r).append(" ").append(c).append(" ")
                    .append(r + random.nextInt(Math.min(3, rows - r))).append(" ")
                    .append(c + random.nextInt(Math.min(3, columns - c))).append(";");
            }
            if (k < stones) {
                text.append("stone ").append(random.nextInt(rows)).append(" ").append(random.nextInt(columns)).append(";");
            }
        }
        String[] words = {"turn ", "lift ", "hand ", "clear ", "score 7 "};
        for (String word : words) {
            if (random.nextInt(3) == 0) {
                text.append(word).append(random.nextInt(random.nextBoolean() ? 100 : 5)).append(";");
            }
        }
        return text.length() > 600 ? goodText(random) : text.toString();
    }

    private static String spoiled(Random random, String text) {
        StringBuilder changed = new StringBuilder(text);
        String signs = "abdefiklnoprstuw0123456789;; \t\n#A\0" + (char) 200;
        for (int k = random.nextInt(3); k >= 0 && changed.length() > 0; k--) {
            int at = random.nextInt(changed.length());
            char sign = signs.charAt(random.nextInt(signs.length()));
            switch (random.nextInt(5)) {
                case 0 -> changed.setCharAt(at, sign);
                case 1 -> changed.insert(at, sign);
                case 2 -> changed.deleteCharAt(at);
                case 3 -> changed.setLength(at);
                default -> {
                    int from = changed.lastIndexOf(";", at) + 1;
                    int to = changed.indexOf(";", from) + 1;
                    if (to > 0) {
                        changed.insert(to, changed.substring(from, to));
                    }
                }
            }
        }
        if (changed.length() > 600) {
            changed.setLength(600);
        }
        return changed.toString();
    }

    private void load(String given) {
        text = given;
        Check.feed(x, text);
        TextModel read = new TextModel(text);
        errorOffset = read.errorOffset;
        errorKind = read.errorKind;
        if (read.model == null) {
            check.badArgument("load of '" + text + "'", x::load);
        } else {
            model = read.model;
            check.same("load of '" + text + "'", x.load(), model.drills.size());
        }
        check.same("errorOffset of '" + text + "'", x.errorOffset(), errorOffset);
        check.same("errorKind of '" + text + "'", x.errorKind(), errorKind);
    }

    private static void textsAlone(int count, int seed) {
        ModelTest test = new ModelTest(seed);
        for (int k = 0; k < count; k++) {
            test.load(spoiled(test.random, goodText(test.random)));
        }
    }

    // ---- calls

    private void compare(String what, Answer got, Answer want) {
        Class<?> due = null;
        int answer = 0;
        try {
            answer = want.get();
        } catch (RuntimeException e) {
            due = e.getClass();
        }
        String where = what + " in '" + text + "'";
        if (due != null) {
            check.fails(where, due, got::get);
        } else {
            check.same(where, got.get(), answer);
        }
    }

    private static int bit(boolean b) {
        return b ? 1 : 0;
    }

    private void question(int choice, int d, int a, int b) {
        String args = "(" + d + ", " + a + ", " + b + ")";
        switch (choice) {
            case 0 -> compare("drillCount", x::drillCount, () -> model.drills.size());
            case 1 -> compare("rowCount", x::rowCount, () -> model.rows);
            case 2 -> compare("columnCount", x::columnCount, () -> model.columns);
            case 3 -> compare("errorOffset", x::errorOffset, () -> errorOffset);
            case 4 -> compare("errorKind", x::errorKind, () -> errorKind);
            case 5 -> compare("cellKind" + args, () -> x.cellKind(d, a, b), () -> model.withCell(d, a, b).kind[a][b]);
            case 6 -> compare("timesSown" + args, () -> x.timesSown(d, a, b), () -> model.withCell(d, a, b).times[a][b]);
            case 7 -> compare("cellsOf" + args, () -> x.cellsOf(d, a), () -> cellsOf(d, a));
            case 8 -> compare("unsown" + args, () -> x.unsown(d), () -> model.unsown(model.drill(d)));
            case 9 -> compare("overlap" + args, () -> x.overlap(d), () -> model.overlap(model.drill(d)));
            case 10 -> compare("mostSown" + args, () -> x.mostSown(d), () -> model.mostSown(model.drill(d)));
            case 11 -> compare("stoneClusters" + args, () -> x.stoneClusters(d),
                () -> model.sets(model.stones(model.drill(d))).size());
            case 12 -> compare("largestCluster" + args, () -> x.largestCluster(d),
                () -> model.largest(model.sets(model.stones(model.drill(d)))));
            case 13 -> compare("largestRectangle" + args, () -> x.largestRectangle(d),
                () -> model.largestRectangle(model.drill(d)));
            case 14 -> compare("longestUnsownRun" + args, () -> x.longestUnsownRun(d, a),
                () -> model.longestUnsownRun(model.withCell(d, a, 0), a));
            case 15 -> compare("emptiestRow" + args, () -> x.emptiestRow(d), () -> model.emptiestRow(model.drill(d)));
            case 16 -> compare("unsownInColumn" + args, () -> x.unsownInColumn(d, b),
                () -> model.unsownInColumn(model.withCell(d, 0, b), b));
            case 17 -> compare("unsownRegions" + args, () -> x.unsownRegions(d),
                () -> model.sets(model.unsownCells(model.drill(d))).size());
            case 18, 19 -> compare("stepsToUnsown" + args, () -> x.stepsToUnsown(d, a, b),
                () -> model.stepsToUnsown(model.withCell(d, a, b), a, b));
            default -> questionOfDrill(choice, d, a, b);
        }
    }

    private int cellsOf(int d, int kind) {
        Model.Drill drill = model.drill(d);
        if (kind < 0 || kind > 2) {
            throw new IllegalArgumentException();
        }
        return model.count(drill, kind);
    }

    private void questionOfDrill(int choice, int d, int a, int b) {
        String args = "(" + d + ", " + a + ", " + b + ")";
        switch (choice) {
            case 20 -> compare("width" + args, () -> x.width(d), () -> model.drill(d).width);
            case 21 -> compare("radius" + args, () -> x.radius(d), () -> model.drill(d).radius);
            case 22 -> compare("hasControl" + args, () -> bit(x.hasControl(d)), () -> bit(model.drill(d).control));
            case 23 -> compare("position" + args, () -> x.position(d), () -> model.drill(d).position);
            case 24 -> compare("passCount" + args, () -> x.passCount(d), () -> model.drill(d).passes);
            case 25 -> compare("cost" + args, () -> x.cost(d), () -> model.drill(d).cost);
            case 26 -> compare("score" + args, () -> x.score(d), () -> model.score(model.drill(d)));
            case 27 -> compare("place" + args, () -> x.place(d), () -> place(d));
            case 28 -> compare("drillAt" + args, () -> x.drillAt(d), () -> drillAt(d));
            case 29 -> compare("topCount" + args, () -> x.topCount(d), () -> model.rows - model.drill(d).width + 1);
            case 30 -> compare("turnCost" + args, () -> x.turnCost(d, a, b), () -> turnCost(d, a, b));
            case 31 -> compare("lowerings" + args, () -> x.lowerings(d, a),
                () -> model.lowerings(model.withTop(d, a), a));
            case 32 -> compare("loweredColumns" + args, () -> x.loweredColumns(d, a), () -> lowered(d, a, 0));
            case 33 -> compare("firstLowered" + args, () -> x.firstLowered(d, a), () -> lowered(d, a, 1));
            case 34 -> compare("lastLowered" + args, () -> x.lastLowered(d, a), () -> lowered(d, a, 2));
            case 35 -> compare("stonesUnder" + args, () -> x.stonesUnder(d, a), () -> stonesUnder(d, a));
            case 36 -> compare("gain" + args, () -> x.gain(d, a), () -> model.make(model.withTop(d, a).copy(), a)[0]);
            case 37 -> compare("waste" + args, () -> x.waste(d, a), () -> model.make(model.withTop(d, a).copy(), a)[1]);
            case 38 -> compare("passCost" + args, () -> x.passCost(d, a), () -> model.passCost(model.withTop(d, a), a));
            case 39 -> compare("bestTop" + args, () -> x.bestTop(d), () -> model.bestTop(model.drill(d)));
            case 40 -> compare("reachedBy" + args, () -> x.reachedBy(d, a, b),
                () -> model.reachedBy(model.withCell(d, a, b), a, b));
            case 41 -> compare("outOfReach" + args, () -> x.outOfReach(d), () -> model.outOfReach(model.drill(d)));
            case 42 -> compare("stoneToClear" + args, () -> x.stoneToClear(d), () -> model.stoneToClear(model.drill(d)));
            default -> questionOfPlan(choice, d, a, b);
        }
    }

    private int place(int d) {
        model.drill(d);
        return model.ranking().indexOf(d);
    }

    private int drillAt(int place) {
        List<Integer> ranking = model.ranking();
        if (place < 0 || place >= ranking.size()) {
            throw new IllegalArgumentException();
        }
        return ranking.get(place);
    }

    private int turnCost(int d, int a, int b) {
        model.withTop(d, b);
        return model.turnCost(model.withTop(d, a), a, b);
    }

    private int lowered(int d, int top, int which) {
        Model.Drill drill = model.withTop(d, top);
        int[] found = {0, -1, -1};
        for (int column = 0; column < model.columns; column++) {
            if (model.lowered(drill, top, column)) {
                found[0]++;
                found[1] = found[1] < 0 ? column : found[1];
                found[2] = column;
            }
        }
        return found[which];
    }

    private int stonesUnder(int d, int top) {
        Model.Drill drill = model.withTop(d, top);
        int count = 0;
        for (int row = top; row < top + drill.width; row++) {
            for (int kind : drill.kind[row]) {
                count += kind == 1 ? 1 : 0;
            }
        }
        return count;
    }

    private void questionOfPlan(int choice, int d, int a, int b) {
        String args = "(" + d + ", " + a + ", " + b + ")";
        switch (choice) {
            case 43, 44 -> compare("plan" + args, () -> x.plan(d), () -> model.plan(model.drill(d)));
            case 45 -> compare("planOverlap" + args, () -> x.planOverlap(d), () -> model.planOverlap(model.drill(d)));
            case 46, 47 -> compare("planTurns" + args, () -> x.planTurns(d), () -> model.planTurns(model.drill(d)));
            case 48, 49, 50 -> compare("planTop" + args, () -> x.planTop(d, a / 2), () -> model.planTop(model.drill(d), a / 2));
            case 51 -> {
                if (!tooManyTops(a)) {
                    compare("passesWithWidth" + args, () -> x.passesWithWidth(d, a), () -> passesWithWidth(d, a));
                }
            }
            case 52 -> compare("greedyPasses" + args, () -> x.greedyPasses(d), () -> model.greedy(model.drill(d))[0]);
            case 53 -> compare("greedyOverlap" + args, () -> x.greedyOverlap(d), () -> model.greedy(model.drill(d))[1]);
            case 54, 55 -> compare("costToFinish" + args, () -> x.costToFinish(d), () -> model.costToFinish(model.drill(d)));
            case 56 -> compare("undoDepth", x::undoDepth, () -> model.past.size());
            case 57 -> compare("format" + args, () -> x.format(d), () -> keep(model.format(model.drill(d))));
            case 58 -> compare("formatRow" + args, () -> x.formatRow(d, a),
                () -> keep(model.formatRow(model.withCell(d, a, 0), a)));
            default -> check.same("formatted in '" + text + "'", Check.formatted(x), formatted);
        }
    }

    private int passesWithWidth(int d, int width) {
        Model.Drill drill = model.drill(d);
        model.needWidth(width);
        return model.passesWithWidth(drill, width);
    }

    private int keep(String newText) {
        formatted = newText;
        return newText.length();
    }

    private void action(int choice, int d, int a, int b) {
        String args = "(" + d + ", " + a + ", " + b + ")";
        switch (choice) {
            case 0, 1 -> compare("pass" + args, () -> x.pass(d, a), () -> pass(d, a));
            case 2 -> compare("handSow" + args, () -> x.handSow(d, a, b), () -> handSow(d, a, b));
            case 3 -> compare("clearStone" + args, () -> x.clearStone(d, a, b), () -> clearStone(d, a, b));
            case 4 -> {
                if (!tooManyTops(a)) {
                    compare("setWidth" + args, () -> x.setWidth(d, a), () -> setWidth(d, a));
                }
            }
            case 5 -> compare("setControl" + args, () -> bit(x.setControl(d, a > 2)), () -> setControl(d, a > 2));
            case 6 -> {
                if (b < 2) {
                    compare("carryOutPlan" + args, () -> x.carryOutPlan(d), () -> carryOutPlan(d));
                }
            }
            default -> compare("undo", x::undo, () -> model.undo());
        }
    }

    private int pass(int d, int top) {
        model.withTop(d, top);
        model.remember();
        return model.make(model.drill(d), top)[0];
    }

    private int handSow(int d, int row, int column) {
        if (!model.isUnsown(model.withCell(d, row, column), row, column)) {
            throw new IllegalStateException();
        }
        model.remember();
        Model.Drill drill = model.drill(d);
        drill.times[row][column] = 1;
        drill.cost += model.hand;
        return model.unsown(drill);
    }

    private int clearStone(int d, int row, int column) {
        if (model.withCell(d, row, column).kind[row][column] != 1) {
            throw new IllegalStateException();
        }
        model.remember();
        Model.Drill drill = model.drill(d);
        drill.kind[row][column] = 0;
        drill.cost += model.clear;
        return model.count(drill, 1);
    }

    private int setWidth(int d, int width) {
        model.drill(d);
        model.needWidth(width);
        model.remember();
        Model.Drill drill = model.drill(d);
        int previous = drill.width;
        drill.width = width;
        if (drill.position > model.rows - width) {
            drill.position = model.rows - width;
        }
        return previous;
    }

    private int setControl(int d, boolean control) {
        model.drill(d);
        model.remember();
        boolean previous = model.drill(d).control;
        model.drill(d).control = control;
        return bit(previous);
    }

    private int carryOutPlan(int d) {
        int[] order = model.bestOrder(model.drill(d));
        if (order.length == 0) {
            throw new IllegalStateException();
        }
        model.remember();
        for (int top : order) {
            model.make(model.drill(d), top);
        }
        return order.length;
    }
}
