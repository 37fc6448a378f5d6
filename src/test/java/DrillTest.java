/** Promises 24 to 32: the drills, their costs, scores and places. */
public final class DrillTest {
    private static final Check check = new Check();

    public static void main(String[] args) {
        asGiven();
        afterPasses();
        scores();
        places();
        wrongIndexes();
        check.close("DrillTest");
    }

    private static void asGiven() {
        DrillContest x = Check.loaded("field 5 4;drill a 2 9 control;drill b 5 0;");
        check.same("width of a", x.width(0), 2);
        check.same("width of b", x.width(1), 5);
        check.same("radius of a", x.radius(0), 9);
        check.same("radius of b", x.radius(1), 0);
        check.same("control of a", x.hasControl(0), true);
        check.same("control of b", x.hasControl(1), false);
        check.same("no position", x.position(0), -1);
        check.same("no passes", x.passCount(0), 0);
        check.same("no cost", x.cost(0), 0);
    }

    private static void afterPasses() {
        DrillContest x = Check.loaded("field 5 4;stone 0 1;drill a 2 1;drill b 5 0;");
        x.pass(0, 0);
        check.same("position at 0", x.position(0), 0);
        check.same("one pass", x.passCount(0), 1);
        check.same("first pass has no turn", x.cost(0), 4 + 2 * 2);
        x.pass(0, 3);
        check.same("position at 3", x.position(0), 3);
        check.same("two passes", x.passCount(0), 2);
        check.same("a far turn", x.cost(0), 8 + 4 + 2 + 5 + 3);
        x.pass(0, 3);
        check.same("a turn on the spot", x.cost(0), 22 + 4 + 2 + 5 + 4);
        x.clearStone(0, 0, 1);
        check.same("clearing costs", x.cost(0), 37 + 8);
        x.handSow(0, 0, 1);
        check.same("hand sowing costs", x.cost(0), 45 + 3);
        check.same("no pass by hand", x.passCount(0), 3);
        check.same("position by hand", x.position(0), 3);
        check.same("the other drill's cost", x.cost(1), 0);
        check.same("the other drill's position", x.position(1), -1);
        check.same("the other drill's passes", x.passCount(1), 0);
    }

    private static void scores() {
        DrillContest x = Check.loaded("field 2 3;wet 0 0 0 0;drill a 1 0;score 7 11;");
        check.same("score at first", x.score(0), 35);
        x.pass(0, 1);
        check.same("score after a pass", x.score(0), 5 + 14);
        x.pass(0, 1);
        check.same("score with overlap", x.score(0), 5 + 10 + 14 + 33);
        DrillContest y = Check.loaded("field 2 3;drill a 1 0;score 0 0;");
        y.pass(0, 0);
        y.pass(0, 0);
        check.same("score without weights", y.score(0), 5 + 10);
    }

    private static void places() {
        DrillContest x = Check.loaded("field 3 3;drill a 1 0;drill b 1 0;drill c 3 0;drill d 1 0;");
        for (int k = 0; k < 4; k++) {
            check.same("all equal, place", x.place(k), k);
            check.same("all equal, drill", x.drillAt(k), k);
        }
        x.pass(2, 0);
        x.pass(1, 0);
        // c has sown all, b a third, a and d nothing
        int[] best = {2, 1, 0, 3};
        for (int k = 0; k < 4; k++) {
            check.same("drillAt " + k, x.drillAt(k), best[k]);
            check.same("place of " + best[k], x.place(best[k]), k);
        }
        check.badArgument("drillAt(4)", () -> x.drillAt(4));
        check.badArgument("drillAt(-1)", () -> x.drillAt(-1));
        check.badArgument("drillAt(max)", () -> x.drillAt(Integer.MAX_VALUE));
        DrillContest none = Check.loaded("field 3 3;");
        check.badArgument("drillAt without drills", () -> none.drillAt(0));
        check.badArgument("drillAt(-1) without drills", () -> none.drillAt(-1));
    }

    private static void wrongIndexes() {
        DrillContest x = Check.loaded("field 3 4;drill a 2 0;drill b 1 0;");
        int[] drills = {-1, 2, 3, Integer.MAX_VALUE, Integer.MIN_VALUE};
        for (int drill : drills) {
            check.outOfBounds("width", () -> x.width(drill));
            check.outOfBounds("radius", () -> x.radius(drill));
            check.outOfBounds("hasControl", () -> x.hasControl(drill));
            check.outOfBounds("position", () -> x.position(drill));
            check.outOfBounds("passCount", () -> x.passCount(drill));
            check.outOfBounds("cost", () -> x.cost(drill));
            check.outOfBounds("score", () -> x.score(drill));
            check.outOfBounds("place", () -> x.place(drill));
        }
    }
}
