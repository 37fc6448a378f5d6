/**
 * The boundary cases that the document names for promises 10 to 32: the field of a drill, and the
 * drills. Each label begins with the promise. Wrong indexes are in RefusedTest.
 */
public final class EdgeFieldTest {
    private static final Check check = new Check();
    private static final int NONE = DrillContest.NONE;

    public static void main(String[] args) {
        corners();
        timesSown();
        kinds();
        unsownAndOverlap();
        clusters();
        rectangles();
        runs();
        emptiestRows();
        columns();
        regions();
        steps();
        drillsAsGiven();
        positionsAndCosts();
        scores();
        places();
        check.close("EdgeFieldTest");
    }

    // ---- the field of a drill

    private static void corners() {
        DrillContest x = Check.loaded("field 12 24;stone 0 0;wet 0 23 0 23;wet 11 0 11 0;stone 11 23;drill a 1 0;");
        check.same("10 first cell", x.cellKind(0, 0, 0), DrillContest.STONE);
        check.same("10 end of the first row", x.cellKind(0, 0, 23), DrillContest.WET);
        check.same("10 begin of the last row", x.cellKind(0, 11, 0), DrillContest.WET);
        check.same("10 last cell", x.cellKind(0, 11, 23), DrillContest.STONE);
        check.same("10 beside the first cell", x.cellKind(0, 0, 1), DrillContest.SOIL);
        check.same("10 below the first cell", x.cellKind(0, 1, 0), DrillContest.SOIL);
        check.same("10 before the last cell", x.cellKind(0, 11, 22), DrillContest.SOIL);
        check.same("10 above the last cell", x.cellKind(0, 10, 23), DrillContest.SOIL);
        DrillContest one = Check.loaded("field 1 1;drill a 1 0;");
        check.same("10 the only cell", one.cellKind(0, 0, 0), DrillContest.SOIL);
        check.same("11 the only cell", one.timesSown(0, 0, 0), 0);
        one.pass(0, 0);
        check.same("11 the only cell sown", one.timesSown(0, 0, 0), 1);
    }

    private static void timesSown() {
        DrillContest x = Check.loaded("field 2 3;stone 0 1;wet 0 2 0 2;drill a 2 0 control;drill b 1 0;");
        check.same("11 none at first", x.timesSown(0, 0, 0), 0);
        for (int k = 1; k <= 300; k++) {
            x.pass(0, 0);
        }
        check.same("11 as often as there were passes", x.timesSown(0, 0, 0), 300);
        check.same("11 a stone never", x.timesSown(0, 0, 1), 0);
        check.same("11 a wet cell never", x.timesSown(0, 0, 2), 0);
        check.same("11 below the stone", x.timesSown(0, 1, 1), 300);
        check.same("11 not in the field of the other drill", x.timesSown(1, 0, 0), 0);
        check.same("14 with many passes", x.overlap(0), 4 * 299);
        check.same("15 with many passes", x.mostSown(0), 300);
        x.clearStone(0, 0, 1);
        check.same("11 a cleared stone is not sown", x.timesSown(0, 0, 1), 0);
        x.handSow(0, 0, 1);
        check.same("11 by hand once", x.timesSown(0, 0, 1), 1);
    }

    private static void kinds() {
        DrillContest none = Check.loaded("field 12 24;drill a 1 0;");
        check.same("12 all SOIL", none.cellsOf(0, DrillContest.SOIL), 288);
        check.same("12 no STONE", none.cellsOf(0, DrillContest.STONE), 0);
        check.same("12 no WET", none.cellsOf(0, DrillContest.WET), 0);
        DrillContest wet = Check.loaded("field 12 24;wet 0 0 11 23;stone 3 3;drill a 1 0;");
        check.same("12 all but one WET", wet.cellsOf(0, DrillContest.WET), 287);
        check.same("12 one STONE", wet.cellsOf(0, DrillContest.STONE), 1);
        check.same("12 no SOIL", wet.cellsOf(0, DrillContest.SOIL), 0);
        for (int wrong : new int[] {-1, 3, Integer.MIN_VALUE, Integer.MAX_VALUE}) {
            check.badArgument("12 kind " + wrong, () -> wet.cellsOf(0, wrong));
            check.outOfBounds("12 the drill counts first", () -> wet.cellsOf(1, wrong));
        }
        none.pass(0, 0);
        check.same("12 sown cells are SOIL", none.cellsOf(0, DrillContest.SOIL), 288);
    }

    private static void unsownAndOverlap() {
        DrillContest x = Check.loaded("field 3 4;drill a 3 0;");
        check.same("13 full", x.unsown(0), 12);
        x.handSow(0, 1, 1);
        check.same("13 one less", x.unsown(0), 11);
        check.same("14 sown once is no overlap", x.overlap(0), 0);
        check.same("15 one cell", x.mostSown(0), 1);
        x.pass(0, 0);
        check.same("13 empty", x.unsown(0), 0);
        check.same("14 one cell twice", x.overlap(0), 1);
        check.same("15 one cell twice", x.mostSown(0), 2);
        x.pass(0, 0);
        check.same("14 all twice, one three times", x.overlap(0), 11 + 2);
        DrillContest none = Check.loaded("field 1 2;stone 0 0;wet 0 1 0 1;drill a 1 0;");
        none.pass(0, 0);
        check.same("13 no SOIL", none.unsown(0), 0);
        check.same("14 no SOIL, at least 0", none.overlap(0), 0);
        check.same("15 no SOIL", none.mostSown(0), 0);
        DrillContest last = Check.loaded("field 12 24;drill a 1 0;");
        last.handSow(0, 11, 23);
        check.same("15 the last cell", last.mostSown(0), 1);
        check.same("13 all but the last cell", last.unsown(0), 287);
    }

    private static void clusters() {
        DrillContest none = Check.loaded("field 3 3;wet 0 0 0 2;drill a 1 0;");
        check.same("16 no stones", none.stoneClusters(0), 0);
        check.same("17 no stones", none.largestCluster(0), 0);
        DrillContest one = Check.loaded("field 1 1;stone 0 0;drill a 1 0;");
        check.same("16 one stone", one.stoneClusters(0), 1);
        check.same("17 one stone", one.largestCluster(0), 1);
        DrillContest corner = Check.loaded("field 2 2;stone 0 0;stone 1 1;drill a 1 0;");
        check.same("16 corner to corner is not adjacent", corner.stoneClusters(0), 2);
        check.same("17 corner to corner is not adjacent", corner.largestCluster(0), 1);
        DrillContest round = Check.loaded("field 3 3;stone 0 0;stone 0 2;stone 2 0;stone 2 2;drill a 1 0;");
        check.same("16 no way round the edges", round.stoneClusters(0), 4);
        DrillContest rows = Check.loaded("field 2 3;stone 0 2;stone 1 0;drill a 1 0;");
        check.same("16 the end of a row and the begin of the next", rows.stoneClusters(0), 2);
        // A ring round a wet cell is one cluster; a stone inside of a wider ring would be another.
        DrillContest ring = Check.loaded("field 3 3;wet 1 1 1 1;stone 0 0;stone 0 1;stone 0 2;stone 1 0;stone 1 2;"
            + "stone 2 0;stone 2 1;stone 2 2;drill a 1 0;");
        check.same("16 a ring", ring.stoneClusters(0), 1);
        check.same("17 a ring", ring.largestCluster(0), 8);
        ring.clearStone(0, 0, 1);
        check.same("16 an open ring", ring.stoneClusters(0), 1);
        check.same("17 an open ring", ring.largestCluster(0), 7);
        ring.clearStone(0, 2, 1);
        check.same("16 a ring in two", ring.stoneClusters(0), 2);
        check.same("17 a ring in two", ring.largestCluster(0), 3);
        // #.# / #.# / ### : up again on the other side
        DrillContest bend = Check.loaded("field 3 3;stone 0 0;stone 0 2;stone 1 0;stone 1 2;stone 2 0;stone 2 1;stone 2 2;drill a 1 0;");
        check.same("16 round a bend", bend.stoneClusters(0), 1);
        check.same("17 round a bend", bend.largestCluster(0), 7);
    }

    private static void rectangles() {
        DrillContest none = Check.loaded("field 2 2;stone 0 0;stone 1 1;wet 0 1 0 1;wet 1 0 1 0;drill a 1 0;");
        check.same("18 no SOIL", none.largestRectangle(0), 0);
        none.clearStone(0, 1, 1);
        check.same("18 one cell", none.largestRectangle(0), 1);
        DrillContest full = Check.loaded("field 12 24;drill a 8 0;");
        check.same("18 the whole field", full.largestRectangle(0), 288);
        full.pass(0, 0);
        check.same("18 sown cells are SOIL", full.largestRectangle(0), 288);
        DrillContest row = Check.loaded("field 3 24;wet 0 0 0 23;wet 2 0 2 23;drill a 1 0;");
        check.same("18 a whole row", row.largestRectangle(0), 24);
        DrillContest column = Check.loaded("field 12 3;wet 0 0 11 0;wet 0 2 11 2;drill a 1 0;");
        check.same("18 a whole column", column.largestRectangle(0), 12);
        // The common columns of two rows need not be adjacent: .#. over ... has 3, not 4.
        DrillContest apart = Check.loaded("field 2 3;stone 0 1;drill a 1 0;");
        check.same("18 adjacent columns", apart.largestRectangle(0), 3);
        DrillContest rows = Check.loaded("field 3 2;wet 1 0 1 1;drill a 1 0;");
        check.same("18 adjacent rows", rows.largestRectangle(0), 2);
    }

    private static void runs() {
        DrillContest x = Check.loaded("field 4 24;wet 0 0 0 23;stone 1 0;stone 1 23;stone 2 11;drill a 1 0;");
        check.same("19 no SOIL", x.longestUnsownRun(0, 0), 0);
        check.same("19 without both ends", x.longestUnsownRun(0, 1), 22);
        check.same("19 the longer part", x.longestUnsownRun(0, 2), 12);
        check.same("19 the whole row", x.longestUnsownRun(0, 3), 24);
        x.pass(0, 3);
        check.same("19 all sown", x.longestUnsownRun(0, 3), 0);
        x.handSow(0, 2, 17);
        check.same("19 the left part now", x.longestUnsownRun(0, 2), 11);
        DrillContest ends = Check.loaded("field 1 5;wet 0 2 0 2;drill a 1 0;");
        check.same("19 no way round the edge", ends.longestUnsownRun(0, 0), 2);
        DrillContest one = Check.loaded("field 1 1;drill a 1 0;");
        check.same("19 one cell", one.longestUnsownRun(0, 0), 1);
    }

    private static void emptiestRows() {
        DrillContest x = Check.loaded("field 12 2;drill a 1 0;");
        check.same("20 of several the lowest", x.emptiestRow(0), 0);
        x.handSow(0, 0, 0);
        check.same("20 the next one", x.emptiestRow(0), 1);
        for (int top = 1; top <= 10; top++) {
            x.pass(0, top);
        }
        check.same("20 the last row", x.emptiestRow(0), 11);
        x.pass(0, 11);
        check.same("20 one cell is left", x.emptiestRow(0), 0);
        x.handSow(0, 0, 1);
        check.same("20 all sown", x.emptiestRow(0), NONE);
        DrillContest none = Check.loaded("field 2 2;wet 0 0 1 1;stone 0 0;drill a 1 0;");
        check.same("20 no SOIL", none.emptiestRow(0), NONE);
        none.clearStone(0, 0, 0);
        check.same("20 a cleared stone", none.emptiestRow(0), 0);
    }

    private static void columns() {
        DrillContest x = Check.loaded("field 12 24;wet 0 0 11 0;stone 5 23;drill a 1 0;");
        check.same("21 no SOIL", x.unsownInColumn(0, 0), 0);
        check.same("21 a whole column", x.unsownInColumn(0, 1), 12);
        check.same("21 the last column", x.unsownInColumn(0, 23), 11);
        x.handSow(0, 11, 23);
        check.same("21 one sown", x.unsownInColumn(0, 23), 10);
        for (int top = 0; top < 12; top++) {
            x.pass(0, top);
        }
        check.same("21 all sown", x.unsownInColumn(0, 1), 0);
    }

    private static void regions() {
        DrillContest x = Check.loaded("field 12 24;drill a 1 0;");
        check.same("22 the whole field", x.unsownRegions(0), 1);
        x.pass(0, 5);
        check.same("22 two parts", x.unsownRegions(0), 2);
        DrillContest corner = Check.loaded("field 2 2;stone 0 0;wet 1 1 1 1;drill a 1 0;");
        check.same("22 corner to corner is not adjacent", corner.unsownRegions(0), 2);
        corner.handSow(0, 0, 1);
        check.same("22 one cell", corner.unsownRegions(0), 1);
        corner.handSow(0, 1, 0);
        check.same("22 none", corner.unsownRegions(0), 0);
        DrillContest rows = Check.loaded("field 2 3;wet 0 0 0 1;wet 1 1 1 2;drill a 1 0;");
        check.same("22 the end of a row and the begin of the next", rows.unsownRegions(0), 2);
        // As many as can be: every other cell of the first row.
        DrillContest many = Check.loaded("field 1 24;drill a 1 0;");
        for (int column = 1; column < 24; column += 2) {
            many.handSow(0, 0, column);
        }
        check.same("22 every other cell", many.unsownRegions(0), 12);
    }

    private static void steps() {
        DrillContest x = Check.loaded("field 12 24;wet 0 0 11 22;wet 0 23 10 23;drill a 1 0;");
        check.same("23 at such a cell", x.stepsToUnsown(0, 11, 23), 0);
        check.same("23 beside it", x.stepsToUnsown(0, 11, 22), 1);
        check.same("23 above it", x.stepsToUnsown(0, 10, 23), 1);
        check.same("23 from the other corner", x.stepsToUnsown(0, 0, 0), 34);
        x.handSow(0, 11, 23);
        check.same("23 none left", x.stepsToUnsown(0, 11, 23), NONE);
        DrillContest shut = Check.loaded("field 3 3;wet 0 0 0 0;stone 0 1;stone 1 0;stone 1 1;drill a 1 0;");
        check.same("23 shut in", shut.stepsToUnsown(0, 0, 0), NONE);
        check.same("23 from a stone beside SOIL", shut.stepsToUnsown(0, 0, 1), 1);
        shut.handSow(0, 0, 2);
        check.same("23 from a stone over a sown cell", shut.stepsToUnsown(0, 0, 1), 2);
        shut.clearStone(0, 1, 0);
        check.same("23 to a cleared stone", shut.stepsToUnsown(0, 0, 0), 1);
        // ~#~# / ###. : the wet cells are shut in
        DrillContest lost = Check.loaded("field 2 4;wet 0 0 0 0;stone 0 1;wet 0 2 0 2;stone 1 0;stone 1 1;stone 1 2;stone 0 3;drill a 1 0;");
        check.same("23 from a stone to nowhere", lost.stepsToUnsown(0, 0, 1), NONE);
        check.same("23 not over a second stone", lost.stepsToUnsown(0, 0, 2), NONE);
        check.same("23 the stone in the corner", lost.stepsToUnsown(0, 0, 3), 1);
        // Column 23 and column 0 of the next row are not adjacent.
        DrillContest edge = Check.loaded("field 2 24;wet 0 0 0 23;wet 1 1 1 23;drill a 1 0;");
        check.same("23 no way round the edge", edge.stepsToUnsown(0, 0, 23), 24);
        // ~#. / ~#~ / ~~~ : the way leads down, along and up again.
        DrillContest bend = Check.loaded("field 3 3;stone 0 1;stone 1 1;wet 0 0 2 0;wet 2 1 2 2;wet 1 2 1 2;drill a 1 0;");
        check.same("23 round a wall", bend.stepsToUnsown(0, 0, 0), 6);
    }

    // ---- drills

    private static void drillsAsGiven() {
        DrillContest x = Check.loaded("field 12 1;drill a 1 0;drill b 8 9 control;drill c 8 0;drill d 1 9 control;");
        int[] widths = {1, 8, 8, 1};
        int[] radii = {0, 9, 0, 9};
        for (int k = 0; k < 4; k++) {
            check.same("24 width of " + k, x.width(k), widths[k]);
            check.same("25 radius of " + k, x.radius(k), radii[k]);
            check.same("26 control of " + k, x.hasControl(k), k % 2 == 1);
            check.same("27 no position of " + k, x.position(k), NONE);
            check.same("28 no passes of " + k, x.passCount(k), 0);
            check.same("29 no cost of " + k, x.cost(k), 0);
            check.same("33 tops of " + k, x.topCount(k), 13 - widths[k]);
        }
    }

    private static void positionsAndCosts() {
        DrillContest x = Check.loaded("field 12 3;drill a 4 1;");
        x.handSow(0, 0, 0);
        check.same("27 none by hand", x.position(0), NONE);
        check.same("28 no pass by hand", x.passCount(0), 0);
        x.pass(0, 0);
        check.same("27 the first top row", x.position(0), 0);
        check.same("29 no turn at first", x.cost(0), 3 + 5);
        x.pass(0, 8);
        check.same("27 the last top row", x.position(0), 8);
        check.same("29 a turn then", x.cost(0), 8 + 5 + 5 + 8);
        check.same("28 two passes", x.passCount(0), 2);
        // A position of 0 is a position: the turn from it counts.
        DrillContest y = Check.loaded("field 1 1;drill a 1 0;turn 40;");
        y.pass(0, 0);
        y.pass(0, 0);
        check.same("29 a turn from row 0 to row 0", y.cost(0), 3 + 43);
    }

    private static void scores() {
        DrillContest x = Check.loaded("field 2 2;wet 0 0 1 1;drill a 1 0;");
        check.same("30 nothing to sow", x.score(0), 0);
        x.pass(0, 0);
        check.same("30 the cost alone", x.score(0), 2 + 2);
        DrillContest y = Check.loaded("field 12 24;drill a 1 0;score 99 99;");
        check.same("30 all unsown", y.score(0), 288 * 99);
        y.pass(0, 0);
        check.same("30 a row sown", y.score(0), 264 * 99 + 26);
        y.pass(0, 0);
        check.same("30 a row twice", y.score(0), 264 * 99 + 26 + 31 + 24 * 99);
    }

    private static void places() {
        DrillContest one = Check.loaded("field 1 1;drill a 1 0;");
        check.same("31 the only one", one.place(0), 0);
        check.same("32 the only one", one.drillAt(0), 0);
        check.badArgument("32 one place only", () -> one.drillAt(1));
        check.badArgument("32 below 0", () -> one.drillAt(-1));
        DrillContest x = Check.loaded("field 1 2;drill a 1 0;drill b 1 0;drill c 1 0;drill d 1 0;hand 10;");
        // Sowing by hand costs what an unsown cell weighs: the scores stay equal, and the index decides.
        x.handSow(0, 0, 0);
        x.handSow(3, 0, 1);
        for (int k = 0; k < 4; k++) {
            check.same("30 equal scores", x.score(k), 20);
            check.same("31 the index decides", x.place(k), k);
            check.same("32 the index decides", x.drillAt(k), k);
        }
        x.pass(3, 0);
        x.pass(1, 0);
        // Now b has 4, a and c have 20, d has 10 + 4 + 3.
        int[] order = {1, 3, 0, 2};
        for (int k = 0; k < 4; k++) {
            check.same("32 place " + k, x.drillAt(k), order[k]);
            check.same("31 place of " + order[k], x.place(order[k]), k);
        }
        for (int wrong : new int[] {-1, 4, 5, Integer.MIN_VALUE, Integer.MAX_VALUE}) {
            check.badArgument("32 place " + wrong, () -> x.drillAt(wrong));
        }
        DrillContest none = new DrillContest();
        check.badArgument("32 no contest", () -> none.drillAt(0));
        check.badArgument("32 no contest, NONE", () -> none.drillAt(NONE));
        DrillContest empty = Check.loaded("field 1 1;");
        check.badArgument("32 no drills", () -> empty.drillAt(0));
        check.badArgument("32 no drills, NONE", () -> empty.drillAt(NONE));
        // A place that a longer list of drills had before is out of range now.
        Check.feed(x, "field 1 1;drill a 1 0;");
        x.load();
        check.same("32 after a load", x.drillAt(0), 0);
        check.badArgument("32 a place of the contest before", () -> x.drillAt(1));
    }
}
