/** Promises 33 to 46: questions about passes. */
public final class PassTest {
    private static final Check check = new Check();

    public static void main(String[] args) {
        topsAndTurns();
        lowering();
        gainsAndWaste();
        passCosts();
        bestTops();
        reach();
        stonesToClear();
        wrongIndexes();
        check.close("PassTest");
    }

    private static void topsAndTurns() {
        DrillContest x = Check.loaded("field 12 2;drill a 1 2;drill b 8 0;drill c 3 9;turn 7;");
        check.same("tops of a", x.topCount(0), 12);
        check.same("tops of b", x.topCount(1), 5);
        check.same("tops of c", x.topCount(2), 10);
        check.same("d = 0, r = 2", x.turnCost(0, 4, 4), 7 + 8);
        check.same("d = 3, r = 2", x.turnCost(0, 4, 1), 7 + 8 - 3);
        check.same("d = 4, r = 2", x.turnCost(0, 4, 8), 7 + 4);
        check.same("d = 11, r = 2", x.turnCost(0, 11, 0), 7 + 11);
        check.same("d = 0, r = 0", x.turnCost(1, 4, 4), 7);
        check.same("d = 9, r = 9", x.turnCost(2, 0, 9), 7 + 36 - 9);
        DrillContest y = Check.loaded("field 4 2;drill a 4 1;");
        check.same("one top only", y.topCount(0), 1);
        check.outOfBounds("second top", () -> y.turnCost(0, 0, 1));
    }

    /** The field: row 0 #.~..# , row 1 ..~.#. , row 2 .~~... */
    private static final String FIELD =
        "field 3 6;stone 0 0;stone 0 5;stone 1 4;wet 0 2 2 2;wet 2 1 2 1;drill a 2 0;drill b 2 0 control;drill c 1 0;";

    private static void lowering() {
        DrillContest x = Check.loaded(FIELD);
        // Without control no stone may be under the drill, but wet cells may: columns 1 2 3.
        check.same("lowerings of a", x.lowerings(0, 0), 1);
        check.same("columns of a", x.loweredColumns(0, 0), 3);
        check.same("first of a", x.firstLowered(0, 0), 1);
        check.same("last of a", x.lastLowered(0, 0), 3);
        check.same("stones under a", x.stonesUnder(0, 0), 3);
        // columns 0 1 2 3 5
        check.same("lowerings of a at 1", x.lowerings(0, 1), 2);
        check.same("columns of a at 1", x.loweredColumns(0, 1), 5);
        check.same("first of a at 1", x.firstLowered(0, 1), 0);
        check.same("last of a at 1", x.lastLowered(0, 1), 5);
        check.same("stones under a at 1", x.stonesUnder(0, 1), 1);
        // With control some soil must be under the drill: all columns but 2.
        check.same("lowerings of b", x.lowerings(1, 0), 2);
        check.same("columns of b", x.loweredColumns(1, 0), 5);
        check.same("first of b", x.firstLowered(1, 0), 0);
        check.same("last of b", x.lastLowered(1, 0), 5);
        // The single rows of c: 1 2 3 4, then 0 1 2 3 and 5, then all.
        check.same("lowerings of c at 0", x.lowerings(2, 0), 1);
        check.same("columns of c at 0", x.loweredColumns(2, 0), 4);
        check.same("lowerings of c at 1", x.lowerings(2, 1), 2);
        check.same("columns of c at 2", x.loweredColumns(2, 2), 6);
        check.same("stones under c at 2", x.stonesUnder(2, 2), 0);

        DrillContest edges = Check.loaded("field 3 24;wet 0 1 2 23;stone 2 0;drill a 2 0 control;drill b 1 0;");
        check.same("only column 0, first", edges.firstLowered(0, 0), 0);
        check.same("only column 0, last", edges.lastLowered(0, 0), 0);
        check.same("no stones below the pass", edges.stonesUnder(0, 0), 0);
        check.same("a stone under the pass", edges.stonesUnder(0, 1), 1);
        check.same("no stones above the pass", edges.stonesUnder(1, 1), 0);

        DrillContest stones = Check.loaded("field 1 2;stone 0 0;stone 0 1;drill a 1 0;drill b 1 0 control;");
        for (int k = 0; k < 2; k++) {
            check.same("no lowering", stones.lowerings(k, 0), 0);
            check.same("no column", stones.loweredColumns(k, 0), 0);
            check.same("no first", stones.firstLowered(k, 0), -1);
            check.same("no last", stones.lastLowered(k, 0), -1);
        }
        DrillContest wet = Check.loaded("field 2 24;wet 0 0 1 23;drill a 2 0;drill b 2 0 control;");
        check.same("lowered over wet", wet.loweredColumns(0, 0), 24);
        check.same("one lowering over wet", wet.lowerings(0, 0), 1);
        check.same("last over wet", wet.lastLowered(0, 0), 23);
        check.same("control lifts over wet", wet.loweredColumns(1, 0), 0);
        check.same("nothing gained over wet", wet.gain(0, 0), 0);
    }

    private static void gainsAndWaste() {
        DrillContest x = Check.loaded(FIELD);
        check.same("gain of a", x.gain(0, 0), 4);
        check.same("gain of a at 1", x.gain(0, 1), 7);
        check.same("gain of b", x.gain(1, 0), 7);
        check.same("waste at first", x.waste(0, 0), 0);
        x.pass(0, 0);
        check.same("gain is gone", x.gain(0, 0), 0);
        check.same("waste instead", x.waste(0, 0), 4);
        check.same("gain at 1 is less", x.gain(0, 1), 5);
        check.same("waste at 1", x.waste(0, 1), 2);
        x.pass(0, 0);
        check.same("waste counts cells, not times", x.waste(0, 1), 2);
    }

    private static void passCosts() {
        DrillContest x = Check.loaded("field 3 6;stone 0 2;drill a 1 1;lift 4;turn 6;");
        check.same("two lowerings", x.passCost(0, 0), 6 + 8);
        check.same("one lowering", x.passCost(0, 1), 6 + 4);
        x.pass(0, 1);
        check.same("with a near turn", x.passCost(0, 0), 6 + 8 + 6 + 3);
        check.same("with a turn on the spot", x.passCost(0, 1), 6 + 4 + 6 + 4);
        x.pass(0, 0);
        check.same("with a far turn", x.passCost(0, 2), 6 + 4 + 6 + 2);
        DrillContest stones = Check.loaded("field 1 1;stone 0 0;drill a 1 0;");
        check.same("no lowering", stones.passCost(0, 0), 1);
    }

    private static void bestTops() {
        DrillContest x = Check.loaded("field 4 3;drill a 2 0;");
        check.same("lowest of equals", x.bestTop(0), 0);
        x.pass(0, 0);
        check.same("most gain", x.bestTop(0), 2);
        x.pass(0, 2);
        check.same("nothing to gain", x.bestTop(0), -1);
        DrillContest y = Check.loaded("field 5 2;drill a 2 0;");
        y.pass(0, 0);
        // Tops 2 and 3 gain 4 without waste.
        check.same("lowest again", y.bestTop(0), 2);
        y.handSow(0, 3, 0);
        y.handSow(0, 3, 1);
        // Top 1 gains 2 and wastes 2, top 2 the same, top 3 the same.
        check.same("equal gain and waste", y.bestTop(0), 1);
        DrillContest z = Check.loaded("field 3 2;stone 0 1;wet 2 0 2 0;drill a 2 0 control;");
        z.handSow(0, 0, 0);
        // Top 0 gains 2 and wastes 1; top 1 gains 3.
        check.same("gain first", z.bestTop(0), 1);
        z.handSow(0, 2, 1);
        // Now both gain 2 and waste 1.
        check.same("then the lowest", z.bestTop(0), 0);
        DrillContest w = Check.loaded("field 3 2;wet 2 0 2 1;drill a 2 0;");
        w.handSow(0, 0, 0);
        w.handSow(0, 0, 1);
        // Top 0 gains row 1 and wastes row 0; top 1 gains row 1 and wastes nothing.
        check.same("least waste", w.bestTop(0), 1);
        DrillContest stones = Check.loaded("field 1 1;stone 0 0;drill a 1 0;");
        check.same("no soil", stones.bestTop(0), -1);
    }

    private static void reach() {
        DrillContest x = Check.loaded("field 5 2;stone 2 0;wet 4 1 4 1;drill a 2 0;drill b 2 0 control;");
        check.same("top corner", x.reachedBy(0, 0, 0), 1);
        check.same("over the stone", x.reachedBy(0, 1, 0), 1);
        check.same("beside the stone", x.reachedBy(0, 2, 1), 6);
        check.same("under the stone", x.reachedBy(0, 3, 0), 8);
        check.same("the stone", x.reachedBy(0, 2, 0), 0);
        check.same("wet", x.reachedBy(0, 4, 1), 0);
        check.same("with control", x.reachedBy(1, 1, 0), 3);
        check.same("the stone with control", x.reachedBy(1, 2, 0), 0);
        check.same("all in reach", x.outOfReach(0), 0);
        x.pass(0, 0);
        check.same("sown cells stay in reach", x.reachedBy(0, 0, 0), 1);
        DrillContest y = Check.loaded("field 4 3;stone 1 0;stone 2 0;stone 1 2;drill a 3 0;drill b 3 0 control;drill c 1 0;");
        check.same("out of reach", y.outOfReach(0), 5);
        check.same("no top reaches", y.reachedBy(0, 3, 2), 0);
        check.same("control reaches", y.outOfReach(1), 0);
        check.same("narrow reaches", y.outOfReach(2), 0);
        y.handSow(0, 0, 0);
        check.same("sown cells are not counted", y.outOfReach(0), 4);
        DrillContest wide = Check.loaded("field 12 1;drill a 8 0;");
        check.same("row 7", wide.reachedBy(0, 7, 0), 31);
        check.same("row 11", wide.reachedBy(0, 11, 0), 16);
        check.same("row 0", wide.reachedBy(0, 0, 0), 1);
    }

    private static void stonesToClear() {
        // Columns: one stone in the middle of three rows, two stones, one stone at the edge.
        DrillContest x = Check.loaded("field 3 3;stone 1 0;stone 0 1;stone 2 1;stone 0 2;drill a 2 0;drill b 2 0 control;");
        check.same("out of reach", x.outOfReach(0), 3);
        // Clearing (1,0) leaves 1 out of reach, clearing (0,1) leaves 2.
        check.same("the stone in the middle", x.stoneToClear(0), 3);
        check.same("with control the first", x.stoneToClear(1), 1);
        check.same("nothing is cleared", x.cellKind(0, 1, 0), DrillContest.STONE);
        check.same("nothing is recorded", x.undoDepth(), 0);
        x.clearStone(0, 1, 0);
        check.same("then in column 1", x.stoneToClear(0), 1);
        DrillContest none = Check.loaded("field 3 3;wet 0 0 0 0;drill a 2 0;");
        check.same("no stones", none.stoneToClear(0), -1);
        DrillContest full = Check.loaded("field 12 24;drill a 2 0;");
        check.same("no stones in the largest field", full.stoneToClear(0), -1);
        DrillContest last = Check.loaded("field 12 24;stone 11 23;drill a 2 0;");
        check.same("the last cell", last.stoneToClear(0), 287);
        // Clearing may make it worse: the cleared cell itself is out of reach.
        DrillContest y = Check.loaded("field 2 2;stone 0 0;stone 1 0;stone 0 1;drill a 2 0;");
        check.same("not the worse one", y.stoneToClear(0), 1);
        DrillContest z = Check.loaded("field 2 1;stone 0 0;stone 1 0;drill a 2 0;");
        check.same("of equals the first", z.stoneToClear(0), 0);
    }

    private static void wrongIndexes() {
        DrillContest x = Check.loaded("field 3 4;drill a 2 0;");
        int[] drills = {-1, 1, Integer.MAX_VALUE, Integer.MIN_VALUE};
        for (int drill : drills) {
            check.outOfBounds("topCount", () -> x.topCount(drill));
            check.outOfBounds("bestTop", () -> x.bestTop(drill));
            check.outOfBounds("outOfReach", () -> x.outOfReach(drill));
            check.outOfBounds("stoneToClear", () -> x.stoneToClear(drill));
            check.outOfBounds("reachedBy", () -> x.reachedBy(drill, 0, 0));
            check.outOfBounds("reachedBy row", () -> x.reachedBy(0, drill < 0 ? drill : 3, 0));
            check.outOfBounds("reachedBy column", () -> x.reachedBy(0, 0, drill < 0 ? drill : 4));
            wrongTops(x, drill, 0);
        }
        wrongTops(x, 0, -1);
        wrongTops(x, 0, 2);
        wrongTops(x, 0, Integer.MAX_VALUE);
        wrongTops(x, 0, Integer.MIN_VALUE);
        check.outOfBounds("turnCost second", () -> x.turnCost(0, 0, 2));
        check.outOfBounds("turnCost second", () -> x.turnCost(0, 0, -1));
    }

    private static void wrongTops(DrillContest x, int drill, int top) {
        check.outOfBounds("turnCost", () -> x.turnCost(drill, top, 0));
        check.outOfBounds("lowerings", () -> x.lowerings(drill, top));
        check.outOfBounds("loweredColumns", () -> x.loweredColumns(drill, top));
        check.outOfBounds("stonesUnder", () -> x.stonesUnder(drill, top));
        check.outOfBounds("firstLowered", () -> x.firstLowered(drill, top));
        check.outOfBounds("lastLowered", () -> x.lastLowered(drill, top));
        check.outOfBounds("gain", () -> x.gain(drill, top));
        check.outOfBounds("waste", () -> x.waste(drill, top));
        check.outOfBounds("passCost", () -> x.passCost(drill, top));
    }
}
