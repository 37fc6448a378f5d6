/** Promises 10 to 23: questions about the field of a drill. */
public final class FieldTest {
    private static final Check check = new Check();

    public static void main(String[] args) {
        kindsAndTimes();
        counts();
        clusters();
        rectangles();
        unsownRows();
        regionsAndSteps();
        wrongIndexes();
        check.close("FieldTest");
    }

    private static void kindsAndTimes() {
        DrillContest x = Check.loaded("field 3 4;stone 1 2;wet 2 0 2 1;drill a 2 0;drill b 1 0;");
        check.same("soil", x.cellKind(0, 0, 0), DrillContest.SOIL);
        check.same("stone", x.cellKind(0, 1, 2), DrillContest.STONE);
        check.same("wet", x.cellKind(0, 2, 1), DrillContest.WET);
        check.same("last cell", x.cellKind(1, 2, 3), DrillContest.SOIL);
        x.pass(0, 0);
        x.pass(0, 1);
        check.same("sown once", x.timesSown(0, 0, 0), 1);
        check.same("sown twice", x.timesSown(0, 1, 0), 2);
        check.same("wet is not sown", x.timesSown(0, 2, 0), 0);
        check.same("stone is not sown", x.timesSown(0, 1, 2), 0);
        check.same("lifted over a stone", x.timesSown(0, 0, 2), 0);
        check.same("sown soil is SOIL", x.cellKind(0, 1, 0), DrillContest.SOIL);
        check.same("each drill has its own field", x.timesSown(1, 1, 0), 0);
        x.clearStone(0, 1, 2);
        check.same("cleared", x.cellKind(0, 1, 2), DrillContest.SOIL);
        check.same("cleared for one drill only", x.cellKind(1, 1, 2), DrillContest.STONE);
    }

    private static void counts() {
        DrillContest x = Check.loaded("field 3 4;stone 1 2;wet 2 0 2 1;drill a 2 0;");
        check.same("SOIL cells", x.cellsOf(0, DrillContest.SOIL), 9);
        check.same("STONE cells", x.cellsOf(0, DrillContest.STONE), 1);
        check.same("WET cells", x.cellsOf(0, DrillContest.WET), 2);
        check.badArgument("kind 3", () -> x.cellsOf(0, 3));
        check.badArgument("kind -1", () -> x.cellsOf(0, -1));
        check.outOfBounds("drill before kind", () -> x.cellsOf(1, 3));
        check.same("unsown at first", x.unsown(0), 9);
        check.same("overlap at first", x.overlap(0), 0);
        check.same("mostSown at first", x.mostSown(0), 0);
        x.pass(0, 0);
        check.same("unsown after a pass", x.unsown(0), 3);
        check.same("overlap after a pass", x.overlap(0), 0);
        check.same("mostSown after a pass", x.mostSown(0), 1);
        x.pass(0, 1);
        check.same("unsown after two", x.unsown(0), 2);
        check.same("overlap after two", x.overlap(0), 3);
        x.pass(0, 0);
        check.same("overlap after three", x.overlap(0), 3 + 6);
        check.same("mostSown after three", x.mostSown(0), 3);
        DrillContest corner = Check.loaded("field 2 2;drill a 1 0;");
        corner.handSow(0, 0, 0);
        check.same("mostSown in the corner", corner.mostSown(0), 1);
        check.same("SOIL counts sown cells", x.cellsOf(0, DrillContest.SOIL), 9);
    }

    private static void clusters() {
        DrillContest none = Check.loaded("field 2 2;wet 0 0 1 1;drill a 1 0;");
        check.same("no cluster", none.stoneClusters(0), 0);
        check.same("no largest cluster", none.largestCluster(0), 0);
        check.same("no rectangle", none.largestRectangle(0), 0);
        // #.#. / ##.# / ..## : one of three, one alone, one of three
        DrillContest x = Check.loaded("field 3 4;stone 0 0;stone 0 2;stone 1 0;stone 1 1;stone 1 3;stone 2 2;stone 2 3;drill a 1 0;");
        check.same("clusters", x.stoneClusters(0), 3);
        check.same("largest", x.largestCluster(0), 3);
        x.clearStone(0, 1, 0);
        check.same("clusters after clearing", x.stoneClusters(0), 4);
        check.same("largest after clearing", x.largestCluster(0), 3);
        x.clearStone(0, 2, 3);
        check.same("largest gets less", x.largestCluster(0), 1);
        // The right end of a row is no neighbour of the left end of the next one.
        DrillContest y = Check.loaded("field 2 24;stone 0 23;stone 1 0;drill a 1 0;");
        check.same("no way round the edge", y.stoneClusters(0), 2);
        DrillContest full = Check.loaded("field 12 24;wet 0 0 11 23;drill a 1 0;" + row(0) + row(1));
        check.same("two full rows", full.stoneClusters(0), 1);
        check.same("size of two full rows", full.largestCluster(0), 48);
    }

    private static String row(int row) {
        StringBuilder text = new StringBuilder();
        for (int column = 0; column < 24; column++) {
            text.append("stone").append(row).append(' ').append(column).append(";");
        }
        return text.toString();
    }

    private static void rectangles() {
        DrillContest x = Check.loaded("field 3 4;stone 1 1;wet 0 3 0 3;drill a 3 0 control;");
        // ...~ / .#.. / .... : the bottom row, or the two by two at the right
        check.same("rectangle", x.largestRectangle(0), 4);
        x.pass(0, 0);
        check.same("sown cells count", x.largestRectangle(0), 4);
        x.clearStone(0, 1, 1);
        check.same("after clearing", x.largestRectangle(0), 9);
        DrillContest full = Check.loaded("field 12 24;drill a 1 0;");
        check.same("the whole field", full.largestRectangle(0), 288);
        DrillContest one = Check.loaded("field 1 1;drill a 1 0;");
        check.same("one cell", one.largestRectangle(0), 1);
        DrillContest column = Check.loaded("field 4 3;wet 0 0 3 0;wet 0 2 3 2;drill a 1 0;");
        check.same("a column", column.largestRectangle(0), 4);
    }

    private static void unsownRows() {
        DrillContest x = Check.loaded("field 3 6;stone 0 3;wet 1 1 1 1;drill a 1 0;");
        check.same("run at the left", x.longestUnsownRun(0, 0), 3);
        check.same("run at the right", x.longestUnsownRun(0, 1), 4);
        check.same("whole row", x.longestUnsownRun(0, 2), 6);
        check.same("emptiest", x.emptiestRow(0), 2);
        check.same("column with stone", x.unsownInColumn(0, 3), 2);
        check.same("column with wet", x.unsownInColumn(0, 1), 2);
        check.same("column of soil", x.unsownInColumn(0, 0), 3);
        x.pass(0, 2);
        check.same("no run", x.longestUnsownRun(0, 2), 0);
        check.same("of several the lowest", x.emptiestRow(0), 0);
        check.same("column after a pass", x.unsownInColumn(0, 0), 2);
        x.handSow(0, 0, 1);
        check.same("run broken by a sown cell", x.longestUnsownRun(0, 0), 2);
        check.same("then row 1", x.emptiestRow(0), 1);
        x.pass(0, 0);
        x.pass(0, 1);
        DrillContest last = Check.loaded("field 3 2;wet 0 0 1 1;stone 2 0;drill a 1 0;");
        check.same("one cell is enough", last.emptiestRow(0), 2);
        check.same("none is emptiest", x.emptiestRow(0), -1);
        check.same("column all sown", x.unsownInColumn(0, 5), 0);
        DrillContest wide = Check.loaded("field 1 24;drill a 1 0;");
        check.same("24 columns", wide.longestUnsownRun(0, 0), 24);
    }

    private static void regionsAndSteps() {
        // ..#. / ###. / .~..
        DrillContest x = Check.loaded("field 3 4;stone 0 2;stone 1 0;stone 1 1;stone 1 2;wet 2 1 2 1;drill a 1 0;");
        check.same("regions", x.unsownRegions(0), 3);
        check.same("at an unsown cell", x.stepsToUnsown(0, 0, 0), 0);
        check.same("from wet", x.stepsToUnsown(0, 2, 1), 1);
        check.same("from a stone", x.stepsToUnsown(0, 1, 0), 1);
        x.pass(0, 2);
        check.same("regions after a pass", x.unsownRegions(0), 2);
        check.same("over sown and wet cells", x.stepsToUnsown(0, 2, 0), 4);
        x.pass(0, 1);
        x.pass(0, 0);
        check.same("no regions", x.unsownRegions(0), 0);
        check.same("no unsown cell", x.stepsToUnsown(0, 0, 0), -1);
        DrillContest y = Check.loaded("field 2 3;stone 0 1;stone 1 1;drill a 1 0;");
        y.handSow(0, 0, 0);
        y.handSow(0, 1, 0);
        check.same("shut in by stones", y.stepsToUnsown(0, 0, 0), -1);
        check.same("from the stone itself", y.stepsToUnsown(0, 0, 1), 1);
        DrillContest edge = Check.loaded("field 2 24;wet 0 0 1 23;drill a 1 0;");
        check.same("all wet", edge.stepsToUnsown(0, 1, 23), -1);
        DrillContest far = Check.loaded("field 12 24;wet 0 0 11 22;wet 0 23 10 23;drill a 1 0;");
        check.same("the longest straight way", far.stepsToUnsown(0, 0, 0), 34);
        check.same("one region", far.unsownRegions(0), 1);
    }

    private static void wrongIndexes() {
        DrillContest x = Check.loaded("field 3 4;drill a 2 0;");
        int[] drills = {-1, 1, 4, Integer.MAX_VALUE, Integer.MIN_VALUE};
        for (int drill : drills) {
            check.outOfBounds("cellKind", () -> x.cellKind(drill, 0, 0));
            check.outOfBounds("timesSown", () -> x.timesSown(drill, 0, 0));
            check.outOfBounds("cellsOf", () -> x.cellsOf(drill, 0));
            check.outOfBounds("unsown", () -> x.unsown(drill));
            check.outOfBounds("overlap", () -> x.overlap(drill));
            check.outOfBounds("mostSown", () -> x.mostSown(drill));
            check.outOfBounds("stoneClusters", () -> x.stoneClusters(drill));
            check.outOfBounds("largestCluster", () -> x.largestCluster(drill));
            check.outOfBounds("largestRectangle", () -> x.largestRectangle(drill));
            check.outOfBounds("longestUnsownRun", () -> x.longestUnsownRun(drill, 0));
            check.outOfBounds("emptiestRow", () -> x.emptiestRow(drill));
            check.outOfBounds("unsownInColumn", () -> x.unsownInColumn(drill, 0));
            check.outOfBounds("unsownRegions", () -> x.unsownRegions(drill));
            check.outOfBounds("stepsToUnsown", () -> x.stepsToUnsown(drill, 0, 0));
        }
        int[] rows = {-1, 3, 12, Integer.MAX_VALUE};
        for (int row : rows) {
            check.outOfBounds("cellKind row", () -> x.cellKind(0, row, 0));
            check.outOfBounds("timesSown row", () -> x.timesSown(0, row, 0));
            check.outOfBounds("longestUnsownRun row", () -> x.longestUnsownRun(0, row));
            check.outOfBounds("stepsToUnsown row", () -> x.stepsToUnsown(0, row, 0));
        }
        int[] columns = {-1, 4, 24, Integer.MIN_VALUE};
        for (int column : columns) {
            check.outOfBounds("cellKind column", () -> x.cellKind(0, 0, column));
            check.outOfBounds("timesSown column", () -> x.timesSown(0, 0, column));
            check.outOfBounds("unsownInColumn column", () -> x.unsownInColumn(0, column));
            check.outOfBounds("stepsToUnsown column", () -> x.stepsToUnsown(0, 0, column));
        }
    }
}
