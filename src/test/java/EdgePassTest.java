/**
 * The boundary cases that the document names for promises 33 to 54: questions about passes, and
 * plans. Each label begins with the promise. Wrong indexes are in RefusedTest.
 */
public final class EdgePassTest {
    private static final Check check = new Check();
    private static final int NONE = DrillContest.NONE;

    public static void main(String[] args) {
        topRows();
        turns();
        loweringWithoutControl();
        loweringWithControl();
        runsOfColumns();
        coveredRows();
        gainAndWaste();
        passCosts();
        bestTops();
        reachedBy();
        outOfReach();
        stoneToClear();
        noPassNeeded();
        leastOverlap();
        fewestPasses();
        lowestSet();
        planTurns();
        lexicographicOrder();
        planTops();
        otherWidths();
        greedy();
        costToFinish();
        check.close("EdgePassTest");
    }

    // ---- questions about passes

    private static void topRows() {
        for (int rows = 1; rows <= 12; rows++) {
            for (int width = 1; width <= Math.min(8, rows); width++) {
                DrillContest x = Check.loaded("field " + rows + " 2;drill a " + width + " 0;");
                int last = rows - width;
                check.same("33 rows " + rows + " width " + width, x.topCount(0), last + 1);
                check.same("36 the last top row", x.loweredColumns(0, last), 2);
                check.outOfBounds("33 behind the last top row", () -> x.gain(0, last + 1));
                x.setWidth(0, 1);
                check.same("33 with another width", x.topCount(0), rows);
            }
        }
    }

    private static void turns() {
        DrillContest x = Check.loaded("field 12 1;drill a 1 0;drill b 1 1;drill c 1 5;drill d 1 6;turn 50;");
        check.same("34 r 0, d 0 is at least 2 * r", x.turnCost(0, 3, 3), 50);
        check.same("34 r 0, d 11", x.turnCost(0, 0, 11), 50 + 11);
        check.same("34 r 1, d 0", x.turnCost(1, 11, 11), 50 + 4);
        check.same("34 r 1, d 1 is less than 2 * r", x.turnCost(1, 0, 1), 50 + 4 - 1);
        check.same("34 r 1, d 2 is 2 * r", x.turnCost(1, 2, 0), 50 + 2);
        check.same("34 r 1, d 3", x.turnCost(1, 0, 3), 50 + 3);
        check.same("34 r 5, d 9", x.turnCost(2, 0, 9), 50 + 20 - 9);
        check.same("34 r 5, d 10", x.turnCost(2, 11, 1), 50 + 10);
        check.same("34 r 5, d 11", x.turnCost(2, 0, 11), 50 + 11);
        check.same("34 r 6, d 11", x.turnCost(3, 11, 0), 50 + 24 - 11);
        DrillContest zero = Check.loaded("field 2 1;drill a 1 0;drill b 1 9;turn 0;");
        check.same("34 base 0, r 0, d 0", zero.turnCost(0, 1, 1), 0);
        check.same("34 base 0, r 9, d 0", zero.turnCost(1, 1, 1), 36);
        check.same("34 both ways", zero.turnCost(1, 0, 1), zero.turnCost(1, 1, 0));
    }

    private static void loweringWithoutControl() {
        // Columns: soil over soil, soil over wet, wet over wet, stone over soil, soil over stone.
        DrillContest x = Check.loaded("field 2 5;wet 1 1 1 2;wet 0 2 0 2;stone 0 3;stone 1 4;drill a 2 0;");
        check.same("36 a STONE lifts, WET does not", x.loweredColumns(0, 0), 3);
        check.same("38 first", x.firstLowered(0, 0), 0);
        check.same("39 last", x.lastLowered(0, 0), 2);
        check.same("40 SOIL alone is sown", x.gain(0, 0), 3);
        DrillContest stone = Check.loaded("field 8 1;stone 7 0;drill a 8 0;drill b 7 0;");
        check.same("36 one stone in the last row is enough", stone.loweredColumns(0, 0), 0);
        check.same("36 a stone below the covered rows", stone.loweredColumns(1, 0), 1);
        check.same("36 a stone in the last covered row", stone.loweredColumns(1, 1), 0);
        DrillContest top = Check.loaded("field 8 1;stone 0 0;drill a 7 0;");
        check.same("36 a stone in the first covered row", top.loweredColumns(0, 0), 0);
        check.same("36 a stone above the covered rows", top.loweredColumns(0, 1), 1);
    }

    private static void loweringWithControl() {
        DrillContest x = Check.loaded("field 2 5;wet 1 1 1 2;wet 0 2 0 2;stone 0 3;stone 1 4;drill a 2 0 control;");
        check.same("36 one SOIL cell is enough", x.loweredColumns(0, 0), 4);
        check.same("35 lifted over WET", x.lowerings(0, 0), 2);
        check.same("40 all SOIL is sown", x.gain(0, 0), 5);
        x.pass(0, 0);
        check.same("36 sown SOIL is SOIL", x.loweredColumns(0, 0), 4);
        DrillContest soil = Check.loaded("field 8 1;wet 0 0 6 0;drill a 8 0 control;drill b 7 0 control;");
        check.same("36 SOIL in the last row", soil.loweredColumns(0, 0), 1);
        check.same("36 SOIL below the covered rows", soil.loweredColumns(1, 0), 0);
        check.same("36 SOIL in the last covered row", soil.loweredColumns(1, 1), 1);
        DrillContest first = Check.loaded("field 8 1;wet 1 0 7 0;drill a 7 0 control;");
        check.same("36 SOIL in the first covered row", first.loweredColumns(0, 0), 1);
        check.same("36 SOIL above the covered rows", first.loweredColumns(0, 1), 0);
        DrillContest stones = Check.loaded("field 2 1;stone 0 0;stone 1 0;drill a 2 0 control;");
        check.same("36 stones alone", stones.loweredColumns(0, 0), 0);
    }

    private static void runsOfColumns() {
        DrillContest full = Check.loaded("field 1 24;drill a 1 0;");
        check.same("35 one run of all columns", full.lowerings(0, 0), 1);
        check.same("36 all columns", full.loweredColumns(0, 0), 24);
        check.same("38 all columns", full.firstLowered(0, 0), 0);
        check.same("39 all columns", full.lastLowered(0, 0), 23);
        StringBuilder even = new StringBuilder("field 1 24;drill a 1 0;");
        for (int column = 0; column < 24; column += 2) {
            even.append("stone 0 ").append(column).append(";");
        }
        DrillContest odd = Check.loaded(even.toString());
        check.same("35 every other column", odd.lowerings(0, 0), 12);
        check.same("36 every other column", odd.loweredColumns(0, 0), 12);
        check.same("38 every other column", odd.firstLowered(0, 0), 1);
        check.same("39 every other column", odd.lastLowered(0, 0), 23);
        DrillContest ends = Check.loaded("field 1 24;wet 0 1 0 22;drill a 1 0 control;");
        check.same("35 both ends are two runs", ends.lowerings(0, 0), 2);
        check.same("38 both ends", ends.firstLowered(0, 0), 0);
        check.same("39 both ends", ends.lastLowered(0, 0), 23);
        DrillContest inner = Check.loaded("field 1 24;stone 0 0;stone 0 23;drill a 1 0;");
        check.same("35 without the ends", inner.lowerings(0, 0), 1);
        check.same("38 without the ends", inner.firstLowered(0, 0), 1);
        check.same("39 without the ends", inner.lastLowered(0, 0), 22);
        DrillContest none = Check.loaded("field 1 3;wet 0 0 0 2;drill a 1 0 control;");
        check.same("35 none", none.lowerings(0, 0), 0);
        check.same("36 none", none.loweredColumns(0, 0), 0);
        check.same("38 none", none.firstLowered(0, 0), NONE);
        check.same("39 none", none.lastLowered(0, 0), NONE);
    }

    private static void coveredRows() {
        DrillContest x = Check.loaded("field 5 24;stone 0 0;stone 1 23;stone 3 0;stone 4 23;drill a 3 0;drill b 5 0;drill c 1 0;");
        check.same("37 rows 0 to 2", x.stonesUnder(0, 0), 2);
        check.same("37 rows 1 to 3", x.stonesUnder(0, 1), 2);
        check.same("37 rows 2 to 4", x.stonesUnder(0, 2), 2);
        check.same("37 all rows", x.stonesUnder(1, 0), 4);
        check.same("37 one row", x.stonesUnder(2, 4), 1);
        check.same("37 none", x.stonesUnder(2, 2), 0);
        x.clearStone(2, 4, 23);
        check.same("37 cleared", x.stonesUnder(2, 4), 0);
        check.same("37 not for the other drill", x.stonesUnder(1, 0), 4);
    }

    private static void gainAndWaste() {
        DrillContest x = Check.loaded("field 3 24;drill a 3 0;drill b 1 0;");
        check.same("40 all", x.gain(0, 0), 72);
        check.same("41 nothing is sown", x.waste(0, 0), 0);
        x.handSow(0, 2, 23);
        check.same("40 all but one", x.gain(0, 0), 71);
        check.same("41 one", x.waste(0, 0), 1);
        x.pass(0, 0);
        check.same("40 nothing", x.gain(0, 0), 0);
        check.same("41 all", x.waste(0, 0), 72);
        x.pass(0, 0);
        check.same("41 cells, not times", x.waste(0, 0), 72);
        // What stands in a column where the drill is lifted is neither gained nor wasted.
        DrillContest y = Check.loaded("field 2 2;stone 0 0;drill a 2 0;");
        y.handSow(0, 1, 0);
        check.same("40 not where it is lifted", y.gain(0, 0), 2);
        check.same("41 not where it is lifted", y.waste(0, 0), 0);
        y.setControl(0, true);
        check.same("41 with control", y.waste(0, 0), 1);
    }

    private static void passCosts() {
        DrillContest x = Check.loaded("field 3 24;wet 0 0 0 23;stone 1 5;drill a 1 1 control;turn 0;lift 99;");
        check.same("42 no lowering, no position", x.passCost(0, 0), 24);
        check.same("42 two lowerings", x.passCost(0, 1), 24 + 198);
        check.same("42 one lowering", x.passCost(0, 2), 24 + 99);
        x.pass(0, 0);
        check.same("42 on the spot", x.passCost(0, 0), 24 + 4);
        check.same("42 d 1", x.passCost(0, 1), 24 + 198 + 3);
        check.same("42 d 2", x.passCost(0, 2), 24 + 99 + 2);
        check.same("42 asking makes no pass", x.cost(0), 24);
        DrillContest y = Check.loaded("field 1 1;drill a 1 0;lift 0;turn 0;");
        check.same("42 the least cost", y.passCost(0, 0), 1);
        y.pass(0, 0);
        check.same("42 the least cost again", y.passCost(0, 0), 1);
    }

    private static void bestTops() {
        DrillContest none = Check.loaded("field 2 2;wet 0 0 1 1;drill a 1 0;");
        check.same("43 no SOIL", none.bestTop(0), NONE);
        DrillContest far = Check.loaded("field 3 1;stone 1 0;drill a 2 0;");
        check.same("43 SOIL out of reach", far.bestTop(0), NONE);
        DrillContest x = Check.loaded("field 12 2;drill a 1 0;");
        check.same("43 of several the lowest", x.bestTop(0), 0);
        for (int top = 0; top < 11; top++) {
            x.pass(0, top);
        }
        check.same("43 the last top row", x.bestTop(0), 11);
        x.handSow(0, 11, 0);
        check.same("43 a gain of 1", x.bestTop(0), 11);
        x.handSow(0, 11, 1);
        check.same("43 all sown", x.bestTop(0), NONE);
        // Row 1 is unsown; rows 0 and 2 are sown in 2 and in 1 of their columns.
        DrillContest waste = Check.loaded("field 3 2;wet 2 0 2 0;drill a 2 0;");
        waste.handSow(0, 0, 0);
        waste.handSow(0, 0, 1);
        waste.handSow(0, 2, 1);
        check.same("43 equal gain, the least waste", waste.bestTop(0), 1);
        DrillContest thin = Check.loaded("field 3 1;wet 2 0 2 0;drill a 2 0;");
        thin.handSow(0, 0, 0);
        check.same("43 equal gain of 1, the least waste", thin.bestTop(0), 1);
        // Top 0 gains 2 without waste, top 1 gains 3 and wastes 1: the gain counts first.
        DrillContest gain = Check.loaded("field 3 2;wet 0 0 0 1;drill a 2 0;");
        gain.handSow(0, 2, 0);
        check.same("43 the gain counts before the waste", gain.bestTop(0), 1);
    }

    private static void reachedBy() {
        DrillContest x = Check.loaded("field 12 24;stone 6 3;wet 6 4 6 4;drill a 1 0;drill b 8 0;drill c 8 0 control;");
        check.same("44 the last top row", x.reachedBy(0, 11, 23), 1 << 11);
        check.same("44 the first top row", x.reachedBy(0, 0, 0), 1);
        check.same("44 a STONE", x.reachedBy(0, 6, 3), 0);
        check.same("44 a WET cell", x.reachedBy(0, 6, 4), 0);
        check.same("44 all top rows", x.reachedBy(1, 7, 0), 31);
        check.same("44 all top rows but the last", x.reachedBy(1, 3, 0), 15);
        check.same("44 the corner", x.reachedBy(1, 11, 0), 16);
        check.same("44 the stone is under every pass", x.reachedBy(1, 0, 3), 0);
        check.same("44 beside a WET cell", x.reachedBy(1, 5, 4), 31);
        check.same("44 with control", x.reachedBy(2, 0, 3), 1);
        check.same("44 a STONE with control", x.reachedBy(2, 6, 3), 0);
        x.pass(2, 0);
        check.same("44 sown cells are sown again", x.reachedBy(2, 0, 3), 1);
    }

    private static void outOfReach() {
        DrillContest x = Check.loaded("field 8 2;stone 4 0;drill a 8 0;drill b 4 0;drill c 5 0;");
        check.same("45 a whole column", x.outOfReach(0), 7);
        check.same("45 just room above the stone", x.outOfReach(1), 3);
        check.same("45 no room on either side", x.outOfReach(2), 7);
        x.setControl(0, true);
        check.same("45 none with control", x.outOfReach(0), 0);
        x.handSow(1, 7, 0);
        check.same("45 sown cells are not counted", x.outOfReach(1), 2);
        x.clearStone(2, 4, 0);
        check.same("45 none without stones", x.outOfReach(2), 0);
        DrillContest wet = Check.loaded("field 2 2;wet 0 0 1 1;drill a 2 0;");
        check.same("45 no SOIL", wet.outOfReach(0), 0);
    }

    private static void stoneToClear() {
        DrillContest none = Check.loaded("field 2 2;wet 0 0 0 1;drill a 2 0;");
        check.same("46 no stones", none.stoneToClear(0), NONE);
        DrillContest first = Check.loaded("field 2 3;stone 0 0;drill a 1 0;");
        check.same("46 the first cell", first.stoneToClear(0), 0);
        first.clearStone(0, 0, 0);
        check.same("46 no stones any more", first.stoneToClear(0), NONE);
        DrillContest last = Check.loaded("field 2 3;stone 1 2;drill a 1 0;");
        check.same("46 the last cell", last.stoneToClear(0), 5);
        // Clearing either leaves the same: the lower number counts, which is the one of the upper row.
        DrillContest even = Check.loaded("field 2 3;stone 1 0;stone 0 2;drill a 2 0;");
        check.same("46 of several the least number", even.stoneToClear(0), 2);
        // Each clearing makes it worse by the cleared cell, in column 0 only: column 2 becomes better.
        DrillContest worse = Check.loaded("field 3 3;stone 0 0;stone 1 0;stone 2 0;stone 2 2;drill a 3 0;");
        check.same("46 the one that helps", worse.stoneToClear(0), 8);
        // All are worse, and equally: three stones in the only column, three rows at once.
        DrillContest bad = Check.loaded("field 3 1;stone 0 0;stone 1 0;stone 2 0;drill a 3 0;");
        check.same("46 the least of what is worse", bad.stoneToClear(0), 0);
        // Cells that are sown need no clearing: the stone of column 1 helps more.
        DrillContest sown = Check.loaded("field 2 2;stone 0 0;stone 0 1;drill a 2 0;");
        check.same("46 before", sown.stoneToClear(0), 0);
        sown.handSow(0, 1, 0);
        check.same("46 after sowing by hand", sown.stoneToClear(0), 1);
    }

    // ---- plans

    private static void noPassNeeded() {
        String[] fields = {
            "field 2 2;wet 0 0 1 1;drill a 1 0;",
            "field 2 2;stone 0 0;stone 0 1;stone 1 0;stone 1 1;drill a 1 0;",
            "field 3 1;stone 1 0;drill a 2 0;"
        };
        for (String field : fields) {
            DrillContest x = Check.loaded(field);
            check.same("47 none for " + field, x.plan(0), 0);
            check.same("48 none for " + field, x.planOverlap(0), 0);
            check.same("49 none for " + field, x.planTurns(0), 0);
            check.same("50 none for " + field, x.planTop(0, 0), NONE);
            check.badState("60 none for " + field, () -> x.carryOutPlan(0));
            x.pass(0, 0);
            check.same("49 none with a position either", x.planTurns(0), 0);
        }
        DrillContest sown = Check.loaded("field 2 2;drill a 2 0;");
        sown.pass(0, 0);
        sown.pass(0, 0);
        check.same("47 all sown", sown.plan(0), 0);
        check.same("48 the overlap there is", sown.planOverlap(0), 4);
        check.same("52 all sown", sown.greedyPasses(0), 0);
        check.same("53 the overlap there is", sown.greedyOverlap(0), 4);
        check.same("54 all sown", sown.costToFinish(0), 0);
        // Nothing is needed of a pass whose cells another one sows too.
        DrillContest one = Check.loaded("field 3 1;wet 0 0 0 0;wet 2 0 2 0;drill a 2 0;");
        check.same("47 one of two passes", one.plan(0), 1);
    }

    private static void leastOverlap() {
        // Columns ~..~ and #11#: top 1 sows the second column again, tops 0 and 2 do not.
        DrillContest x = Check.loaded("field 4 2;wet 0 0 0 0;wet 3 0 3 0;stone 0 1;stone 3 1;drill a 2 0;");
        check.same("47 the fewest of equal overlap", x.plan(0), 2);
        x.handSow(0, 1, 1);
        x.handSow(0, 2, 1);
        check.same("47 less overlap before fewer passes", x.plan(0), 5);
        check.same("48 none", x.planOverlap(0), 0);
        // With control top 0 sows (1,1) again; then (2,0) is left for top 2, which sows (2,1) again.
        x.setControl(0, true);
        x.pass(0, 0);
        check.same("47 what is left", x.plan(0), 4);
        check.same("48 with the overlap that there is", x.planOverlap(0), 2);
        DrillContest y = Check.loaded("field 3 24;drill a 2 0;");
        check.same("47 both passes", y.plan(0), 3);
        check.same("48 a row twice", y.planOverlap(0), 24);
        // Rows 1, 2 and 4 of column 0 need tops 0 2 3, or top 1 and another one; but only top 1 sows
        // column 1 again. The sets with top 1 are lower as well as higher ones: {1, 3} and {1, 4}.
        DrillContest z = Check.loaded("field 6 2;wet 0 0 0 0;wet 3 0 3 0;wet 5 0 5 0;stone 0 1;stone 3 1;wet 4 1 5 1;drill a 2 0;");
        check.same("47 two passes", z.plan(0), 10);
        z.handSow(0, 1, 1);
        z.handSow(0, 2, 1);
        check.same("47 three passes", z.plan(0), 13);
        check.same("48 three passes", z.planOverlap(0), 0);
    }

    private static void fewestPasses() {
        // A pass over wet cells alone adds no overlap, but it is one pass more.
        DrillContest x = Check.loaded("field 12 2;wet 1 0 11 1;drill a 1 0;");
        check.same("47 no needless pass", x.plan(0), 1);
        DrillContest last = Check.loaded("field 12 2;wet 0 0 10 1;drill a 1 0;");
        check.same("47 the last top row alone", last.plan(0), 1 << 11);
        DrillContest all = Check.loaded("field 12 24;drill a 1 0;");
        check.same("47 all top rows", all.plan(0), 4095);
        check.same("48 all top rows", all.planOverlap(0), 0);
    }

    private static void lowestSet() {
        // Three passes over five rows, 0 1 3 or 0 2 3: bits 11 and 13.
        DrillContest x = Check.loaded("field 5 1;drill a 2 0;");
        check.same("47 the lowest bit set", x.plan(0), 11);
        // Rows 1 and 2 are the only ones with SOIL.
        DrillContest y = Check.loaded("field 5 1;wet 3 0 4 0;wet 0 0 0 0;drill a 2 0;");
        check.same("47 one pass for two rows", y.plan(0), 2);
        // One SOIL cell in row 7 of 12, width 8: five passes reach it, and none overlaps.
        DrillContest z = Check.loaded("field 12 1;wet 0 0 6 0;wet 8 0 11 0;drill a 8 0;");
        check.same("47 the lowest of five", z.plan(0), 1);
    }

    private static void planTurns() {
        DrillContest x = Check.loaded("field 4 2;drill a 4 2;drill b 2 1;");
        check.same("49 one pass, no position", x.planTurns(0), 0);
        check.same("49 two passes, no position", x.planTurns(1), 5 + 2);
        x.pass(1, 0);
        check.same("49 one pass from a position", x.planTurns(1), 5 + 2);
        x.pass(1, 2);
        check.same("49 no pass from a position", x.planTurns(1), 0);
        // The stone in the row of the position is cleared, so this row needs a pass.
        DrillContest y = Check.loaded("field 2 1;wet 1 0 1 0;stone 0 0;drill a 1 3;turn 0;");
        y.pass(0, 0);
        y.clearStone(0, 0, 0);
        check.same("47 the position's own row", y.plan(0), 1);
        check.same("49 a turn on the spot", y.planTurns(0), 12);
        check.same("54 a pass on the spot", y.costToFinish(0), 1 + 2 + 12);
        // A drill with a position in row 0, and one without: the first turn counts for one of them.
        DrillContest z = Check.loaded("field 3 1;drill a 1 0;drill b 1 0;");
        z.pass(0, 0);
        z.handSow(1, 0, 0);
        check.same("47 the same plan", z.plan(0), z.plan(1));
        check.same("49 with the first turn", z.planTurns(0), 6 + 6);
        check.same("49 without it", z.planTurns(1), 6);
    }

    private static String order(DrillContest x, int drill) {
        StringBuilder text = new StringBuilder();
        for (int k = 0; x.planTop(drill, k) != NONE; k++) {
            text.append(k == 0 ? "" : " ").append(x.planTop(drill, k));
        }
        return text.toString();
    }

    private static void lexicographicOrder() {
        // From row 1 both neighbours are as near.
        DrillContest x = Check.loaded("field 3 1;drill a 1 0;");
        check.same("50 down, not up", order(x, 0), "0 1 2");
        x.pass(0, 1);
        check.same("50 of two equal orders", order(x, 0), "0 2");
        // 10 is not before 2: the rows are compared, not their digits.
        DrillContest y = Check.loaded("field 12 1;wet 0 0 1 0;wet 3 0 9 0;wet 11 0 11 0;drill a 1 0;");
        check.same("50 row 2 before row 10", order(y, 0), "2 10");
        y.pass(0, 6);
        check.same("50 both as far", order(y, 0), "2 10");
        y.undo();
        y.pass(0, 7);
        check.same("50 the nearer one", order(y, 0), "10 2");
        // Radius 9: 0 2 1, 1 0 2, 1 2 0 and 2 0 1 are equally cheap.
        DrillContest wide = Check.loaded("field 3 1;drill a 1 9;");
        check.same("50 wide turns", order(wide, 0), "0 2 1");
        check.same("49 wide turns", wide.planTurns(0), 41 - 2 + 41 - 1);
    }

    private static void planTops() {
        DrillContest x = Check.loaded("field 12 1;drill a 1 0;drill b 6 0;");
        check.same("50 the first", x.planTop(0, 0), 0);
        check.same("50 the last of twelve", x.planTop(0, 11), 11);
        check.same("50 the last of two", x.planTop(1, 1), 6);
        for (int wrong : new int[] {-1, 12, 13, Integer.MIN_VALUE, Integer.MAX_VALUE}) {
            check.same("50 no pass " + wrong, x.planTop(0, wrong), NONE);
        }
        // The longer plan was asked for before: nothing of it may be left.
        check.same("50 behind the last of two", x.planTop(1, 2), NONE);
        check.outOfBounds("50 the drill counts", () -> x.planTop(2, -1));
    }

    private static void otherWidths() {
        for (int rows = 1; rows <= 12; rows++) {
            DrillContest x = Check.loaded("field " + rows + " 1;drill a 1 0;");
            int most = Math.min(8, rows);
            for (int width = 1; width <= most; width++) {
                check.same("51 width " + width, x.passesWithWidth(0, width), (rows + width - 1) / width);
            }
            for (int wrong : new int[] {0, -1, most + 1, 9, 12, 13, Integer.MIN_VALUE, Integer.MAX_VALUE}) {
                check.badArgument("51 rows " + rows + " width " + wrong, () -> x.passesWithWidth(0, wrong));
                check.outOfBounds("51 the drill counts first", () -> x.passesWithWidth(1, wrong));
            }
        }
        DrillContest x = Check.loaded("field 4 1;stone 1 0;drill a 2 0;");
        check.same("51 the same width", x.passesWithWidth(0, 2), 1);
        check.same("51 wider than there is room", x.passesWithWidth(0, 3), 0);
        check.same("51 narrower", x.passesWithWidth(0, 1), 3);
        x.setControl(0, true);
        check.same("51 with control", x.passesWithWidth(0, 4), 1);
        x.pass(0, 0);
        x.pass(0, 2);
        check.same("51 all sown", x.passesWithWidth(0, 1), 0);
        check.same("24 the width stays", x.width(0), 2);
        check.same("27 the position stays", x.position(0), 2);
    }

    private static void greedy() {
        DrillContest none = Check.loaded("field 3 1;stone 1 0;drill a 2 0;");
        check.same("52 out of reach", none.greedyPasses(0), 0);
        check.same("53 out of reach", none.greedyOverlap(0), 0);
        DrillContest all = Check.loaded("field 12 24;drill a 1 0;drill b 8 0;");
        check.same("52 twelve", all.greedyPasses(0), 12);
        check.same("53 none", all.greedyOverlap(0), 0);
        check.same("52 two", all.greedyPasses(1), 2);
        check.same("53 four rows", all.greedyOverlap(1), 96);
        // ~. / .. / .. / .~ : the middle first, then both ends over again.
        DrillContest x = Check.loaded("field 4 2;wet 0 0 0 0;wet 3 1 3 1;drill a 2 0;");
        check.same("52 the middle first", x.greedyPasses(0), 3);
        check.same("53 the middle twice", x.greedyOverlap(0), 4);
        check.same("48 the plan is better", x.planOverlap(0), 0);
        check.same("13 nothing is sown by asking", x.unsown(0), 6);
        check.same("28 no pass by asking", x.passCount(0), 0);
    }

    private static void costToFinish() {
        DrillContest x = Check.loaded("field 3 2;stone 1 0;drill a 2 0;hand 50;");
        // Column 1 by tops 0 and 1, then (0,0) and (2,0) by hand.
        check.same("54 plan and hand", x.costToFinish(0), 4 + 4 + 6 + 100);
        check.same("29 the cost stays", x.cost(0), 0);
        DrillContest hand = Check.loaded("field 3 1;stone 1 0;drill a 2 0;hand 7;");
        check.same("54 by hand alone", hand.costToFinish(0), 14);
        hand.clearStone(0, 1, 0);
        check.same("54 no more by hand", hand.costToFinish(0), 3 + 3 + 6);
        hand.pass(0, 0);
        check.same("54 with the turn from the position", hand.costToFinish(0), 3 + 6);
        int before = hand.cost(0);
        int due = hand.costToFinish(0);
        hand.carryOutPlan(0);
        check.same("54 the cost of carrying it out", hand.cost(0) - before, due);
        check.same("54 done", hand.costToFinish(0), 0);
        DrillContest free = Check.loaded("field 3 1;stone 1 0;drill a 2 0;hand 0;");
        check.same("54 a hand that costs nothing", free.costToFinish(0), 0);
        DrillContest dry = Check.loaded("field 3 1;wet 0 0 2 0;drill a 2 0;");
        check.same("54 no SOIL", dry.costToFinish(0), 0);
    }
}
