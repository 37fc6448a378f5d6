/** Promises 47 to 54: plans, their order, and what finishing costs. */
public final class PlanTest {
    private static final Check check = new Check();

    public static void main(String[] args) {
        plans();
        ties();
        orders();
        twelvePasses();
        otherWidths();
        greedy();
        finishing();
        questionsChangeNothing();
        wrongIndexes();
        check.close("PlanTest");
    }

    private static void plans() {
        DrillContest x = Check.loaded("field 4 6;drill a 2 0;drill b 3 0;drill c 4 0;");
        check.same("two passes", x.plan(0), 5);
        check.same("no overlap", x.planOverlap(0), 0);
        check.same("two wide passes", x.plan(1), 3);
        check.same("their overlap", x.planOverlap(1), 12);
        check.same("one pass", x.plan(2), 1);
        x.pass(0, 1);
        // Row 0 needs top 0 and row 3 needs top 2; both sow a row again.
        check.same("after a pass", x.plan(0), 5);
        check.same("overlap after a pass", x.planOverlap(0), 12);
        x.pass(0, 0);
        check.same("one is left", x.plan(0), 4);
        check.same("overlap with what there is", x.planOverlap(0), 12);
        x.pass(0, 2);
        check.same("no pass needed", x.plan(0), 0);
        check.same("overlap as it is", x.planOverlap(0), 12);
        check.same("no turns", x.planTurns(0), 0);
        check.same("no top", x.planTop(0, 0), -1);
        DrillContest stones = Check.loaded("field 3 1;stone 1 0;drill a 2 0;");
        check.same("cells out of reach need no pass", stones.plan(0), 0);
        check.same("and no overlap", stones.planOverlap(0), 0);
    }

    private static void ties() {
        // Five rows, width 2: three passes with 4 cells of overlap; 0 1 3 and 0 2 3 are even.
        DrillContest x = Check.loaded("field 5 4;drill a 2 0;");
        check.same("lowest bit set", x.plan(0), 11);
        // A pass over nothing but wet and stones adds no overlap; the plan must still do without it.
        DrillContest y = Check.loaded("field 3 2;wet 0 0 1 1;drill a 1 0;");
        check.same("no needless pass", y.plan(0), 4);
        DrillContest z = Check.loaded("field 4 2;wet 0 1 0 1;drill a 2 0;");
        z.handSow(0, 1, 0);
        z.handSow(0, 1, 1);
        // Rows 2 and 3 by top 2; (0,0) by top 0 alone.
        check.same("all that is needed", z.plan(0), 5);
        check.same("with its overlap", z.planOverlap(0), 2);
        DrillContest w = Check.loaded("field 6 3;drill a 3 0;");
        check.same("fewest passes", w.plan(0), 9);
        DrillContest v = Check.loaded("field 4 1;wet 3 0 3 0;drill a 2 0;");
        v.handSow(0, 1, 0);
        // (0,0) by top 0 (1 again); (2,0) by top 1 (1 again) or by top 2 (none again).
        check.same("less overlap", v.plan(0), 5);
        check.same("its overlap", v.planOverlap(0), 1);
        // Top 0 would sow row 0 again, top 1 sows nothing but row 1.
        DrillContest u = Check.loaded("field 3 1;wet 2 0 2 0;drill a 2 0;");
        u.handSow(0, 0, 0);
        check.same("not the lowest, but less overlap", u.plan(0), 2);
        // Column 0 is ~..~ and needs top 1, or tops 0 and 2. Column 1 is #11#: only top 1 sows it again.
        DrillContest t = Check.loaded("field 4 2;wet 0 0 0 0;wet 3 0 3 0;stone 0 1;stone 3 1;drill a 2 0;");
        check.same("one pass for both columns", t.plan(0), 2);
        t.handSow(0, 1, 1);
        t.handSow(0, 2, 1);
        check.same("less overlap by more passes", t.planOverlap(0), 0);
        check.same("more passes", t.plan(0), 5);
        // Without column 1 both ways have the same overlap.
        DrillContest s = Check.loaded("field 4 1;wet 0 0 0 0;wet 3 0 3 0;drill a 2 0;");
        check.same("fewest of equals", s.plan(0), 2);
    }

    private static String order(DrillContest x, int drill) {
        StringBuilder text = new StringBuilder();
        for (int k = 0; x.planTop(drill, k) != DrillContest.NONE; k++) {
            text.append(k == 0 ? "" : " ").append(x.planTop(drill, k));
        }
        return text.toString();
    }

    private static void orders() {
        DrillContest x = Check.loaded("field 4 2;drill a 1 0;drill b 1 1;drill c 1 9;");
        check.same("straight down", order(x, 0), "0 1 2 3");
        check.same("turns straight down", x.planTurns(0), 3 * 6);
        // Radius 1: d = 1 costs 8, d = 2 costs 7, d = 3 costs 8; 1 3 0 2 is as cheap, but higher.
        check.same("skip a row", order(x, 1), "0 2 1 3");
        check.same("turns with skips", x.planTurns(1), 7 + 8 + 7);
        // Radius 9: the wider the better: 2 + 3 + 2 rows; 2 0 3 1 is as cheap, but higher.
        check.same("wide turns", order(x, 2), "1 3 0 2");
        check.same("cost of wide turns", x.planTurns(2), 3 * 41 - 7);
        x.pass(0, 2);
        check.same("from the position", order(x, 0), "3 1 0");
        check.same("its turns", x.planTurns(0), 5 * 3 + 1 + 2 + 1);
        check.same("k too great", x.planTop(0, 3), -1);
        check.same("k below 0", x.planTop(0, -1), -1);
        check.same("k far too great", x.planTop(0, Integer.MAX_VALUE), -1);
        check.same("k far below 0", x.planTop(0, Integer.MIN_VALUE), -1);
        x.undo();
        x.pass(0, 1);
        // 0 2 3 costs 1 + 2 + 1, and so does no other order: 2 3 0 costs 1 + 1 + 3.
        check.same("from position 1", order(x, 0), "0 2 3");
        // Plans of 4, 2 and again 4 passes, one after the other on the same object.
        DrillContest mixed = Check.loaded("field 4 2;drill a 1 1;drill b 2 0;");
        for (int k = 0; k < 3; k++) {
            check.same("four passes", order(mixed, 0), "0 2 1 3");
            check.same("turns of four passes", mixed.planTurns(0), 22);
            check.same("turns of two passes", mixed.planTurns(1), 7);
            check.same("overlap of the other", mixed.planOverlap(0), 0);
        }
        DrillContest one = Check.loaded("field 4 2;drill a 4 3;");
        check.same("one pass has no turn", one.planTurns(0), 0);
        check.same("one pass", order(one, 0), "0");
    }

    private static void twelvePasses() {
        DrillContest x = Check.loaded("field 12 24;drill a 1 0;drill b 1 3;turn 0;");
        check.same("twelve passes", x.plan(0), 4095);
        check.same("twelve in order", order(x, 0), "0 1 2 3 4 5 6 7 8 9 10 11");
        check.same("eleven turns", x.planTurns(0), 11);
        // Radius 3: d = 6 costs 6 and is the least; d = 5 and 7 cost 7. Each top row has at most
        // one partner at distance 6 (0-6 to 5-11), so 6 turns of 6 and 5 of 7 are the best.
        check.same("turns with radius 3", x.planTurns(1), 6 * 6 + 5 * 7);
        int sum = 0;
        for (int k = 1; k < 12; k++) {
            sum += x.turnCost(1, x.planTop(1, k - 1), x.planTop(1, k));
        }
        check.same("the order has these turns", sum, 71);
        check.same("it begins as low as can be", x.planTop(1, 0), 0);
        check.same("carried out", x.carryOutPlan(1), 12);
        check.same("cost of it all", x.cost(1), 12 * 26 + 71);
    }

    private static void otherWidths() {
        DrillContest x = Check.loaded("field 12 3;drill a 2 0;");
        int[] passes = {12, 6, 4, 3, 3, 2, 2, 2};
        for (int width = 1; width <= 8; width++) {
            check.same("width " + width, x.passesWithWidth(0, width), passes[width - 1]);
        }
        check.same("the width stays", x.width(0), 2);
        check.same("nothing recorded", x.undoDepth(), 0);
        check.badArgument("width 0", () -> x.passesWithWidth(0, 0));
        check.badArgument("width 9", () -> x.passesWithWidth(0, 9));
        check.outOfBounds("drill before width", () -> x.passesWithWidth(1, 9));
        DrillContest y = Check.loaded("field 3 3;drill a 2 0;");
        check.badArgument("width above the rows", () -> y.passesWithWidth(0, 4));
        y.pass(0, 1);
        check.same("from now on", y.passesWithWidth(0, 1), 1);
        check.same("the position stays", y.position(0), 1);
    }

    private static void greedy() {
        DrillContest x = Check.loaded("field 5 2;drill a 2 0;drill b 3 0;");
        // Tops 0, 2, and then 3 with row 3 sown again.
        check.same("greedy passes", x.greedyPasses(0), 3);
        check.same("greedy overlap", x.greedyOverlap(0), 2);
        check.same("greedy with width 3", x.greedyPasses(1), 2);
        check.same("its overlap", x.greedyOverlap(1), 2);
        // All but the middle is thin, so the greedy way begins there and overlaps.
        DrillContest y = Check.loaded("field 4 3;wet 0 1 0 2;wet 3 0 3 1;drill a 2 0;");
        check.same("greedy begins in the middle", y.bestTop(0), 1);
        check.same("greedy needs three", y.greedyPasses(0), 3);
        check.same("and overlaps", y.greedyOverlap(0), 6);
        check.same("the plan does not", y.planOverlap(0), 0);
        y.pass(0, 0);
        y.pass(0, 0);
        check.same("with the overlap there is", y.greedyOverlap(0), 4);
        check.same("one more", y.greedyPasses(0), 1);
        y.pass(0, 2);
        check.same("none", y.greedyPasses(0), 0);
        check.same("the overlap there is", y.greedyOverlap(0), 4);
    }

    private static void finishing() {
        DrillContest x = Check.loaded("field 4 3;stone 1 1;drill a 2 1;hand 4;");
        // Tops 0 (two lowerings) and 2 (one), a turn of 7, and (0,1) by hand.
        check.same("finish", x.costToFinish(0), 3 + 4 + 3 + 2 + 7 + 4);
        x.pass(0, 2);
        check.same("finish after a pass", x.costToFinish(0), 3 + 4 + 7 + 4);
        x.pass(0, 0);
        check.same("finish by hand", x.costToFinish(0), 4);
        x.handSow(0, 0, 1);
        check.same("finished", x.costToFinish(0), 0);
    }

    private static void questionsChangeNothing() {
        DrillContest x = Check.loaded("field 5 6;stone 1 1;wet 3 0 4 1;drill a 2 1;drill b 3 0 control;");
        x.pass(0, 1);
        String before = Check.field(x, 0) + Check.field(x, 1);
        int cost = x.cost(0);
        x.plan(0);
        x.planOverlap(0);
        x.planTurns(0);
        x.planTop(0, 0);
        x.passesWithWidth(0, 3);
        x.greedyPasses(0);
        x.greedyOverlap(0);
        x.costToFinish(0);
        x.costToFinish(1);
        check.same("fields", Check.field(x, 0) + Check.field(x, 1), before);
        check.same("cost", x.cost(0), cost);
        check.same("position", x.position(0), 1);
        check.same("passes", x.passCount(0), 1);
        check.same("undoDepth", x.undoDepth(), 1);
    }

    private static void wrongIndexes() {
        DrillContest x = Check.loaded("field 3 4;drill a 2 0;");
        int[] drills = {-1, 1, Integer.MAX_VALUE, Integer.MIN_VALUE};
        for (int drill : drills) {
            check.outOfBounds("plan", () -> x.plan(drill));
            check.outOfBounds("planOverlap", () -> x.planOverlap(drill));
            check.outOfBounds("planTurns", () -> x.planTurns(drill));
            check.outOfBounds("planTop", () -> x.planTop(drill, 0));
            check.outOfBounds("passesWithWidth", () -> x.passesWithWidth(drill, 1));
            check.outOfBounds("greedyPasses", () -> x.greedyPasses(drill));
            check.outOfBounds("greedyOverlap", () -> x.greedyOverlap(drill));
            check.outOfBounds("costToFinish", () -> x.costToFinish(drill));
        }
    }
}
