import java.util.ArrayList;
import java.util.List;
import java.util.Random;

/**
 * The boundary cases that the document names for promises 55 to 65: the actions, undoing and the
 * formatted text. Each label begins with the promise. Wrong indexes are in RefusedTest.
 */
public final class EdgeActionTest {
    private static final Check check = new Check();
    private static final int NONE = DrillContest.NONE;

    public static void main(String[] args) {
        passes();
        handSowing();
        clearing();
        widths();
        positionsAfterWidths();
        control();
        carryingOut();
        undoOfNothing();
        recordedThoughNothingChanged();
        eachActionUndone();
        thirteenActions();
        undoWrapsAround();
        undoLeavesTheRest();
        formatDrill();
        formatRow();
        formattedBytes();
        formattedTextStays();
        check.close("EdgeActionTest");
    }

    // ---- actions

    private static void passes() {
        DrillContest x = Check.loaded("field 12 24;drill a 8 0;");
        check.same("55 the first top row", x.pass(0, 0), 192);
        check.same("55 the last top row", x.pass(0, 4), 96);
        check.same("55 nothing new", x.pass(0, 0), 0);
        check.same("14 overlap of the three", x.overlap(0), 96 + 192);
        check.same("28 three passes", x.passCount(0), 3);
        DrillContest one = Check.loaded("field 1 1;drill a 1 9;turn 99;lift 99;");
        check.same("55 one cell", one.pass(0, 0), 1);
        check.same("29 no turn", one.cost(0), 100);
        check.same("55 one cell again", one.pass(0, 0), 0);
        check.same("29 a turn on the spot", one.cost(0), 100 + 100 + 99 + 36);
        DrillContest none = Check.loaded("field 1 2;stone 0 0;wet 0 1 0 1;drill a 1 0 control;");
        check.same("55 nothing to sow", none.pass(0, 0), 0);
        check.same("29 the columns alone", none.cost(0), 2);
        check.same("27 a position all the same", none.position(0), 0);
        check.same("28 a pass all the same", none.passCount(0), 1);
        DrillContest rows = Check.loaded("field 5 1;drill a 3 0;");
        rows.pass(0, 1);
        check.same("11 just the covered rows", Check.field(rows, 0), "./1/1/1/.");
    }

    private static void handSowing() {
        DrillContest x = Check.loaded("field 12 24;stone 0 1;wet 11 22 11 22;drill a 1 0;drill b 1 0;hand 99;");
        check.same("56 the first cell", x.handSow(0, 0, 0), 285);
        check.same("56 the last cell", x.handSow(0, 11, 23), 284);
        check.same("29 twice by hand", x.cost(0), 198);
        check.same("29 not the other drill", x.cost(1), 0);
        check.same("13 not the other drill", x.unsown(1), 286);
        String before = Snapshot.of(x);
        check.badState("56 sown by hand", () -> x.handSow(0, 0, 0));
        check.badState("56 a STONE", () -> x.handSow(0, 0, 1));
        check.badState("56 a WET cell", () -> x.handSow(0, 11, 22));
        check.same("56 nothing changed", Snapshot.of(x), before);
        x.pass(0, 3);
        check.badState("56 sown by a pass", () -> x.handSow(0, 3, 3));
        x.clearStone(0, 0, 1);
        check.same("56 a cleared stone", x.handSow(0, 0, 1), 284 - 24);
        DrillContest one = Check.loaded("field 1 1;drill a 1 0;hand 0;");
        check.same("56 the only cell", one.handSow(0, 0, 0), 0);
        check.same("29 it costs nothing", one.cost(0), 0);
        check.same("62 it is recorded", one.undoDepth(), 1);
    }

    private static void clearing() {
        DrillContest x = Check.loaded("field 12 24;stone 0 0;stone 11 23;stone 5 5;wet 0 1 0 1;drill a 1 0;drill b 1 0;clear 99;");
        check.same("57 the first cell", x.clearStone(0, 0, 0), 2);
        check.same("57 the last cell", x.clearStone(0, 11, 23), 1);
        check.same("29 two cleared", x.cost(0), 198);
        check.same("12 not the other drill", x.cellsOf(1, DrillContest.STONE), 3);
        check.same("29 not the other drill", x.cost(1), 0);
        String before = Snapshot.of(x);
        check.badState("57 cleared already", () -> x.clearStone(0, 0, 0));
        check.badState("57 SOIL", () -> x.clearStone(0, 1, 1));
        check.badState("57 a WET cell", () -> x.clearStone(0, 0, 1));
        check.same("57 nothing changed", Snapshot.of(x), before);
        check.same("57 the last stone", x.clearStone(0, 5, 5), 0);
        check.same("10 it is SOIL", x.cellKind(0, 5, 5), DrillContest.SOIL);
        check.same("11 it is not sown", x.timesSown(0, 5, 5), 0);
        check.same("13 it is unsown", x.unsown(0), 287);
        x.pass(0, 5);
        check.badState("57 sown SOIL", () -> x.clearStone(0, 5, 5));
    }

    private static void widths() {
        for (int rows = 1; rows <= 12; rows++) {
            DrillContest x = Check.loaded("field " + rows + " 2;drill a 1 0;");
            int most = Math.min(8, rows);
            for (int width = 1; width <= most; width++) {
                check.same("58 rows " + rows + " width " + width, x.setWidth(0, width), Math.max(1, width - 1));
                check.same("24 the new width", x.width(0), width);
            }
            String before = Snapshot.of(x);
            for (int wrong : new int[] {0, -1, most + 1, 9, 12, 13, Integer.MIN_VALUE, Integer.MAX_VALUE}) {
                check.badArgument("58 rows " + rows + " width " + wrong, () -> x.setWidth(0, wrong));
                check.outOfBounds("58 the drill counts first", () -> x.setWidth(1, wrong));
            }
            check.same("58 nothing changed", Snapshot.of(x), before);
        }
    }

    private static void positionsAfterWidths() {
        for (int position = 0; position < 12; position++) {
            for (int width = 1; width <= 8; width++) {
                DrillContest x = Check.loaded("field 12 1;drill a 1 0;");
                x.pass(0, position);
                x.setWidth(0, width);
                check.same("58 from " + position + " to width " + width, x.position(0), Math.min(position, 12 - width));
                check.same("28 no pass by it", x.passCount(0), 1);
                check.same("29 no cost of it", x.cost(0), 3);
                x.setWidth(0, 1);
                check.same("58 it does not come back", x.position(0), Math.min(position, 12 - width));
                x.undo();
                x.undo();
                check.same("61 but by undoing", x.position(0), position);
            }
        }
        DrillContest x = Check.loaded("field 4 1;drill a 1 0;");
        x.setWidth(0, 4);
        check.same("58 no position stays none", x.position(0), NONE);
        check.same("42 so there is no turn", x.passCost(0, 0), 3);
        x.pass(0, 0);
        x.setWidth(0, 1);
        check.same("58 the only top row", x.position(0), 0);
        check.same("42 the turn from there", x.passCost(0, 3), 3 + 5 + 3);
    }

    private static void control() {
        DrillContest x = Check.loaded("field 2 1;stone 0 0;drill a 2 0;drill b 2 0 control;");
        check.same("59 given", x.setControl(0, true), false);
        check.same("26 given", x.hasControl(0), true);
        check.same("59 given again", x.setControl(0, true), true);
        check.same("40 it sows beside the stone", x.gain(0, 0), 1);
        check.same("59 taken", x.setControl(1, false), true);
        check.same("26 taken", x.hasControl(1), false);
        check.same("59 taken again", x.setControl(1, false), false);
        check.same("40 it does not", x.gain(1, 0), 0);
        check.same("62 four actions", x.undoDepth(), 4);
        check.same("29 no cost", x.cost(0), 0);
    }

    private static void carryingOut() {
        DrillContest one = Check.loaded("field 1 1;drill a 1 0;");
        check.same("60 one pass", one.carryOutPlan(0), 1);
        String before = Snapshot.of(one);
        check.badState("60 no pass is needed", () -> one.carryOutPlan(0));
        check.outOfBounds("60 the drill counts first", () -> one.carryOutPlan(1));
        check.same("60 nothing changed", Snapshot.of(one), before);
        DrillContest x = Check.loaded("field 12 24;drill a 1 0;drill b 8 0;");
        check.same("60 twelve passes", x.carryOutPlan(0), 12);
        check.same("28 twelve passes", x.passCount(0), 12);
        check.same("27 the last of them", x.position(0), 11);
        check.same("13 all sown", x.unsown(0), 0);
        check.same("14 no overlap", x.overlap(0), 0);
        check.same("29 their cost", x.cost(0), 12 * 26 + 11 * 6);
        check.same("62 one action", x.undoDepth(), 1);
        check.same("60 two passes", x.carryOutPlan(1), 2);
        check.same("14 four rows twice", x.overlap(1), 96);
        check.same("61 one is left", x.undo(), 1);
        check.same("61 none is left", x.undo(), 0);
        check.same("61 all unsown", x.unsown(0), 288);
        check.same("61 no passes", x.passCount(0), 0);
        // Cells out of reach stay unsown, and a second plan is not needed.
        DrillContest rest = Check.loaded("field 3 2;stone 1 0;drill a 2 0;");
        check.same("60 what can be reached", rest.carryOutPlan(0), 2);
        check.same("13 what cannot", rest.unsown(0), 2);
        check.badState("60 nothing more", () -> rest.carryOutPlan(0));
    }

    // ---- undoing

    private static void undoOfNothing() {
        DrillContest fresh = new DrillContest();
        check.same("61 a new object", fresh.undo(), NONE);
        check.same("62 a new object", fresh.undoDepth(), 0);
        DrillContest x = Check.loaded("field 2 2;drill a 1 0;");
        String before = Snapshot.of(x);
        check.same("61 nothing recorded", x.undo(), NONE);
        check.same("61 nothing changes", Snapshot.of(x), before);
        x.pass(0, 0);
        check.same("61 the only one", x.undo(), 0);
        check.same("61 as before", Snapshot.of(x), before);
        check.same("61 no more", x.undo(), NONE);
        check.same("61 nothing changes again", Snapshot.of(x), before);
        check.same("62 not below 0", x.undoDepth(), 0);
    }

    private static void recordedThoughNothingChanged() {
        DrillContest x = Check.loaded("field 2 2;stone 0 0;drill a 1 0;drill b 1 0 control;hand 0;clear 0;");
        String before = Snapshot.ofDrills(x);
        x.setWidth(0, 1);
        check.same("62 the same width", x.undoDepth(), 1);
        x.setControl(0, false);
        check.same("62 no control as before", x.undoDepth(), 2);
        x.setControl(1, true);
        check.same("62 control as before", x.undoDepth(), 3);
        check.same("61 first", x.undo(), 2);
        check.same("61 second", x.undo(), 1);
        check.same("61 third", x.undo(), 0);
        check.same("61 as before", Snapshot.ofDrills(x), before);
    }

    /** Each action on its own drill, so that undoing the wrong one, or a part of it, is seen. */
    private static void eachActionUndone() {
        DrillContest x = Check.loaded("field 4 5;stone 1 1;stone 2 3;wet 0 4 0 4;drill a 2 1;drill b 1 0 control;drill c 3 2;drill d 2 0;");
        List<String> states = new ArrayList<>();
        states.add(Snapshot.ofDrills(x));
        x.pass(0, 2);
        states.add(Snapshot.ofDrills(x));
        x.carryOutPlan(1);
        states.add(Snapshot.ofDrills(x));
        x.clearStone(2, 1, 1);
        states.add(Snapshot.ofDrills(x));
        x.handSow(3, 3, 4);
        states.add(Snapshot.ofDrills(x));
        x.setWidth(0, 4);
        states.add(Snapshot.ofDrills(x));
        x.setControl(1, false);
        states.add(Snapshot.ofDrills(x));
        x.pass(2, 1);
        states.add(Snapshot.ofDrills(x));
        x.carryOutPlan(3);
        for (int left = 7; left >= 0; left--) {
            check.same("61 left", x.undo(), left);
            check.same("61 as it was with " + left, Snapshot.ofDrills(x), states.get(left));
        }
    }

    private static void thirteenActions() {
        DrillContest x = Check.loaded("field 1 1;drill a 1 0;");
        for (int k = 1; k <= 12; k++) {
            x.pass(0, 0);
            check.same("62 action " + k, x.undoDepth(), k);
        }
        x.pass(0, 0);
        check.same("62 action 13", x.undoDepth(), 12);
        for (int left = 11; left >= 0; left--) {
            check.same("61 left", x.undo(), left);
        }
        check.same("61 the first action stays", x.undo(), NONE);
        check.same("28 its pass stays", x.passCount(0), 1);
        check.same("11 its sowing stays", x.timesSown(0, 0, 0), 1);
        DrillContest y = Check.loaded("field 1 1;drill a 1 0;");
        for (int k = 1; k <= 12; k++) {
            y.pass(0, 0);
        }
        for (int left = 11; left >= 0; left--) {
            y.undo();
        }
        check.same("28 all twelve undone", y.passCount(0), 0);
        check.same("27 no position", y.position(0), NONE);
    }

    /** Actions and undoings in turn, so that the place of the oldest record goes round many times. */
    private static void undoWrapsAround() {
        for (int seed = 0; seed < 40; seed++) {
            Random random = new Random(seed);
            DrillContest x = Check.loaded("field 5 6;stone 2 2;stone 4 0;drill a 2 1;drill b 3 0;drill c 1 2 control;");
            List<String> states = new ArrayList<>();
            for (int k = 0; k < 90; k++) {
                if (random.nextInt(5) < 3) {
                    states.add(Snapshot.ofDrills(x));
                    act(x, random);
                    while (states.size() > 12) {
                        states.remove(0);
                    }
                } else if (states.isEmpty()) {
                    check.same("61 none", x.undo(), NONE);
                } else {
                    check.same("61 left", x.undo(), states.size() - 1);
                    // The depth in the state is of its own time; the drills must be as they were then.
                    check.same("61 as it was", drillsOf(Snapshot.ofDrills(x)), drillsOf(states.remove(states.size() - 1)));
                }
                check.same("62 depth", x.undoDepth(), states.size());
            }
        }
    }

    private static String drillsOf(String state) {
        return state.substring(state.indexOf('\n'));
    }

    private static void act(DrillContest x, Random random) {
        int drill = random.nextInt(3);
        int steps = random.nextInt(3);
        if (steps == 0) {
            x.pass(drill, random.nextInt(x.topCount(drill)));
        } else if (steps == 1) {
            x.setWidth(drill, 1 + random.nextInt(5));
        } else {
            x.setControl(drill, random.nextBoolean());
        }
    }

    private static void undoLeavesTheRest() {
        DrillContest x = Check.loaded("field 2 3;drill a 1 0;");
        x.pass(0, 0);
        x.formatRow(0, 0);
        Check.feed(x, "field 2 3;drill a 1 0;drill a 1 0;");
        check.badArgument("4 a wrong text", x::load);
        Check.feed(x, "field 7 9;");
        check.same("61 undo", x.undo(), 0);
        check.same("65 the formatted text", Check.formatted(x), "111");
        check.same("5 the error", x.errorOffset(), 28);
        check.same("6 its kind", x.errorKind(), DrillContest.BAD_NAME);
        check.same("3 the length of the buffer", Snapshot.bufferLength(x), 10);
        check.same("4 what is in the buffer", x.load(), 0);
        check.same("8 rows of it", x.rowCount(), 7);
    }

    // ---- formatted text

    private static void shows(DrillContest x, int drill, String want) {
        check.same("63 length of '" + want + "'", x.format(drill), want.length());
        check.same("63 text", Check.formatted(x), want);
    }

    private static void formatDrill() {
        DrillContest x = Check.loaded("field 12 24;drill a 1 0;drill zzzzzz 8 9 control;turn 99;lift 99;");
        shows(x, 0, "a w1 r0 $0 288/0");
        shows(x, 1, "zzzzzz w8 r9 cs $0 288/0");
        for (int k = 0; k < 40; k++) {
            x.pass(1, 0);
        }
        // The first pass costs 123, and each other one 123 + 99 + 36.
        shows(x, 1, "zzzzzz w8 r9 cs $" + (123 + 39 * 258) + " 96/" + 39 * 192);
        x.setControl(1, false);
        shows(x, 1, "zzzzzz w8 r9 $10185 96/7488");
        x.handSow(0, 0, 0);
        shows(x, 0, "a w1 r0 $3 287/0");
        DrillContest one = Check.loaded("field 1 1;drill contro 1 0 control;");
        shows(one, 0, "contro w1 r0 cs $0 1/0");
        one.pass(0, 0);
        one.pass(0, 0);
        shows(one, 0, "contro w1 r0 cs $11 0/1");
    }

    private static void formatRow() {
        DrillContest one = Check.loaded("field 1 1;drill a 1 0;");
        check.same("64 one column", one.formatRow(0, 0), 1);
        check.same("64 not sown", Check.formatted(one), ".");
        for (int times = 1; times <= 12; times++) {
            one.pass(0, 0);
            one.formatRow(0, 0);
            check.same("64 sown " + times, Check.formatted(one), String.valueOf(Math.min(9, times)));
        }
        DrillContest x = Check.loaded("field 12 24;stone 11 0;wet 11 1 11 1;stone 11 23;drill a 1 0;");
        check.same("64 24 columns", x.formatRow(0, 11), 24);
        check.same("64 the last row", Check.formatted(x), "#~.....................#");
        check.same("64 the first row", x.formatRow(0, 0), 24);
        check.same("64 all SOIL", Check.formatted(x), "........................");
        x.clearStone(0, 11, 0);
        x.pass(0, 11);
        x.formatRow(0, 11);
        check.same("64 cleared and sown", Check.formatted(x), "1~111111111111111111111#");
    }

    private static void formattedBytes() {
        DrillContest x = new DrillContest();
        for (int index : new int[] {-1, 0, 1, Integer.MIN_VALUE, Integer.MAX_VALUE}) {
            check.same("65 no text, index " + index, x.formattedByte(index), NONE);
        }
        DrillContest y = Check.loaded("field 1 24;drill a 1 0;");
        check.same("65 not before the first format", y.formattedByte(0), NONE);
        int length = y.formatRow(0, 0);
        for (int index : new int[] {-1, length, length + 1, Integer.MIN_VALUE, Integer.MAX_VALUE}) {
            check.same("65 outside, index " + index, y.formattedByte(index), NONE);
        }
        check.same("65 the first", y.formattedByte(0), '.');
        check.same("65 the last", y.formattedByte(length - 1), '.');
        int shorter = y.format(0);
        check.same("65 the last of a shorter text", y.formattedByte(shorter - 1), '0');
        check.same("65 behind it", y.formattedByte(shorter), NONE);
    }

    private static void formattedTextStays() {
        DrillContest x = Check.loaded("field 2 3;stone 0 0;drill a 1 0;drill b 1 0;");
        x.format(0);
        String text = "a w1 r0 $0 5/0";
        x.pass(0, 1);
        check.same("65 after a pass", Check.formatted(x), text);
        x.clearStone(0, 0, 0);
        x.undo();
        check.same("65 after undoing", Check.formatted(x), text);
        check.outOfBounds("63 refused", () -> x.format(2));
        check.outOfBounds("64 refused drill", () -> x.formatRow(2, 0));
        check.outOfBounds("64 refused row", () -> x.formatRow(0, 2));
        check.same("65 after refused calls", Check.formatted(x), text);
        check.badArgument("4 refused", x::load);
        check.same("65 after a refused load", Check.formatted(x), text);
        Check.feed(x, "field 1 1;");
        x.load();
        check.same("65 after a load", Check.formatted(x), text);
        check.outOfBounds("63 no drills", () -> x.format(0));
        check.same("65 without drills", Check.formatted(x), text);
    }
}
