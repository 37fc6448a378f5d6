/** Promises 55 to 62: the actions and their undoing. */
public final class ActionTest {
    private static final Check check = new Check();

    public static void main(String[] args) {
        passes();
        byHand();
        clearing();
        widths();
        control();
        carryingOut();
        undoing();
        twelveActions();
        wrongCallsChangeNothing();
        check.close("ActionTest");
    }

    private static void passes() {
        DrillContest x = Check.loaded("field 3 4;stone 0 1;wet 1 3 1 3;drill a 2 1;drill b 2 1 control;");
        check.same("first pass", x.pass(0, 0), 5);
        check.same("field of a", Check.field(x, 0), "1#11/1.1~/....");
        check.same("cost", x.cost(0), 4 + 4);
        check.same("second pass", x.pass(0, 1), 5);
        check.same("field of a after two", Check.field(x, 0), "1#11/212~/1111");
        check.same("pass again", x.pass(0, 1), 0);
        check.same("with control", x.pass(1, 0), 6);
        check.same("field of b", Check.field(x, 1), "1#11/111~/....");
    }

    private static void byHand() {
        DrillContest x = Check.loaded("field 2 2;stone 0 1;wet 1 0 1 0;drill a 1 0;hand 9;");
        check.same("one left", x.handSow(0, 0, 0), 1);
        check.same("sown once", x.timesSown(0, 0, 0), 1);
        check.same("cost", x.cost(0), 9);
        check.same("no position", x.position(0), -1);
        check.badState("sown already", () -> x.handSow(0, 0, 0));
        check.badState("a stone", () -> x.handSow(0, 0, 1));
        check.badState("wet", () -> x.handSow(0, 1, 0));
        check.outOfBounds("row", () -> x.handSow(0, 2, 0));
        check.outOfBounds("column", () -> x.handSow(0, 0, 2));
        check.outOfBounds("drill", () -> x.handSow(1, 0, 0));
        check.same("only one recorded", x.undoDepth(), 1);
        check.same("none left", x.handSow(0, 1, 1), 0);
    }

    private static void clearing() {
        DrillContest x = Check.loaded("field 2 2;stone 0 1;stone 1 1;wet 1 0 1 0;drill a 1 0;clear 7;");
        check.same("one left", x.clearStone(0, 0, 1), 1);
        check.same("soil now", x.cellKind(0, 0, 1), DrillContest.SOIL);
        check.same("not sown", x.timesSown(0, 0, 1), 0);
        check.same("cost", x.cost(0), 7);
        check.badState("soil", () -> x.clearStone(0, 0, 1));
        check.badState("wet", () -> x.clearStone(0, 1, 0));
        check.outOfBounds("row", () -> x.clearStone(0, -1, 0));
        check.outOfBounds("column", () -> x.clearStone(0, 0, -1));
        check.outOfBounds("drill", () -> x.clearStone(-1, 0, 0));
        check.same("only one recorded", x.undoDepth(), 1);
        check.same("none left", x.clearStone(0, 1, 1), 0);
    }

    private static void widths() {
        DrillContest x = Check.loaded("field 6 2;drill a 2 0;");
        check.same("previous width", x.setWidth(0, 3), 2);
        check.same("no position stays", x.position(0), -1);
        x.pass(0, 3);
        check.same("narrower", x.setWidth(0, 1), 3);
        check.same("position stays", x.position(0), 3);
        check.same("wider", x.setWidth(0, 4), 1);
        check.same("greatest top row", x.position(0), 2);
        check.same("all rows", x.setWidth(0, 6), 4);
        check.same("only top row", x.position(0), 0);
        check.same("the same width", x.setWidth(0, 6), 6);
        check.same("all are recorded", x.undoDepth(), 6);
        check.same("no cost", x.cost(0), 4);
        check.badArgument("width 0", () -> x.setWidth(0, 0));
        check.badArgument("width -1", () -> x.setWidth(0, -1));
        check.badArgument("width 7", () -> x.setWidth(0, 7));
        check.outOfBounds("drill before width", () -> x.setWidth(1, 7));
        check.same("nothing more recorded", x.undoDepth(), 6);
        DrillContest y = Check.loaded("field 12 2;drill a 2 0;");
        check.badArgument("width 9", () -> y.setWidth(0, 9));
        check.same("width 8", y.setWidth(0, 8), 2);
    }

    private static void control() {
        DrillContest x = Check.loaded("field 2 2;stone 0 0;drill a 2 0;drill b 1 0 control;");
        check.same("had none", x.setControl(0, true), false);
        check.same("has it", x.hasControl(0), true);
        check.same("still has it", x.setControl(0, true), true);
        check.same("sows beside the stone", x.gain(0, 0), 3);
        check.same("takes it away", x.setControl(0, false), true);
        check.same("has none", x.hasControl(0), false);
        check.same("does not sow beside the stone", x.gain(0, 0), 2);
        check.same("all are recorded", x.undoDepth(), 3);
        check.outOfBounds("drill", () -> x.setControl(2, true));
        check.same("the other one keeps it", x.hasControl(1), true);
    }

    private static void carryingOut() {
        DrillContest x = Check.loaded("field 4 2;stone 1 1;drill a 1 1;");
        check.same("four passes", x.carryOutPlan(0), 4);
        check.same("field", Check.field(x, 0), "11/1#/11/11");
        check.same("the last of 0 2 1 3", x.position(0), 3);
        check.same("passes", x.passCount(0), 4);
        check.same("cost", x.cost(0), 4 * 4 + 7 + 8 + 7);
        check.badState("no pass needed", () -> x.carryOutPlan(0));
        check.outOfBounds("drill", () -> x.carryOutPlan(1));
        check.same("one action", x.undoDepth(), 1);
        check.same("undone", x.undo(), 0);
        check.same("field before", Check.field(x, 0), "../.#/../..");
        check.same("no position", x.position(0), -1);
        check.same("no passes", x.passCount(0), 0);
        check.same("no cost", x.cost(0), 0);
    }

    private static void undoing() {
        DrillContest x = Check.loaded("field 3 3;stone 1 1;drill a 1 0;drill b 2 0;");
        x.pass(0, 0);
        x.pass(1, 1);
        x.handSow(0, 2, 2);
        x.clearStone(1, 1, 1);
        x.setWidth(1, 3);
        x.setControl(0, true);
        Check.feed(x, "oops");
        check.badArgument("load", x::load);
        Check.feed(x, "field");
        x.format(1);
        String text = Check.formatted(x);
        check.same("undo control", x.undo(), 5);
        check.same("control", x.hasControl(0), false);
        check.same("undo width", x.undo(), 4);
        check.same("width", x.width(1), 2);
        check.same("position", x.position(1), 1);
        check.same("undo clear", x.undo(), 3);
        check.same("stone", x.cellKind(1, 1, 1), DrillContest.STONE);
        check.same("cost of b", x.cost(1), 3 + 4);
        check.same("undo hand", x.undo(), 2);
        check.same("unsown again", x.timesSown(0, 2, 2), 0);
        check.same("cost of a", x.cost(0), 5);
        check.same("undo pass of b", x.undo(), 1);
        check.same("b unsown", x.unsown(1), 8);
        check.same("b without position", x.position(1), -1);
        check.same("b without passes", x.passCount(1), 0);
        check.same("a still sown", x.unsown(0), 5);
        check.same("undo pass of a", x.undo(), 0);
        check.same("a unsown", x.unsown(0), 8);
        check.same("nothing left", x.undo(), -1);
        check.same("depth", x.undoDepth(), 0);
        check.same("formatted text stays", Check.formatted(x), text);
        check.same("error stays", x.errorOffset(), 0);
        check.same("kind stays", x.errorKind(), DrillContest.SYNTAX);
        check.same("buffer stays", x.truncate(5), true);
        check.same("no longer than it was", x.truncate(6), false);
    }

    private static void twelveActions() {
        DrillContest x = Check.loaded("field 3 3;drill a 1 0;");
        for (int k = 1; k <= 30; k++) {
            x.pass(0, k % 3);
            check.same("depth after " + k, x.undoDepth(), Math.min(12, k));
        }
        for (int k = 11; k >= 0; k--) {
            check.same("undo to " + k, x.undo(), k);
            check.same("passes at " + k, x.passCount(0), 18 + k);
        }
        check.same("no more", x.undo(), -1);
        check.same("passes stay", x.passCount(0), 18);
        check.same("position", x.position(0), 0);
        x.pass(0, 1);
        check.same("one again", x.undoDepth(), 1);
        check.same("undone", x.undo(), 0);
        check.same("as before", x.position(0), 0);
    }

    private static void wrongCallsChangeNothing() {
        DrillContest x = Check.loaded("field 3 3;drill a 2 0;");
        check.outOfBounds("top", () -> x.pass(0, 2));
        check.outOfBounds("top", () -> x.pass(0, -1));
        check.outOfBounds("drill", () -> x.pass(1, 0));
        check.outOfBounds("drill", () -> x.pass(-1, 0));
        check.same("nothing recorded", x.undoDepth(), 0);
        check.same("nothing sown", x.unsown(0), 9);
        check.same("no cost", x.cost(0), 0);
    }
}
