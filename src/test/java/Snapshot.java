/** All that can be asked of a contest without changing it, as one text: two of them tell what changed. */
final class Snapshot {
    private Snapshot() {
    }

    static String of(DrillContest x) {
        return "buffer " + bufferLength(x) + " error " + x.errorOffset() + " " + x.errorKind()
            + " formatted '" + Check.formatted(x) + "' " + ofDrills(x);
    }

    /** The field and the drills alone, with what can be undone. */
    static String ofDrills(DrillContest x) {
        StringBuilder text = new StringBuilder();
        text.append(x.rowCount()).append(" x ").append(x.columnCount()).append(" undo ").append(x.undoDepth());
        for (int drill = 0; drill < x.drillCount(); drill++) {
            text.append("\ndrill ").append(drill).append(" at ").append(x.drillAt(drill));
            addDrill(text, x, drill);
            addField(text, x, drill);
        }
        return text.toString();
    }

    /** The only lengths that truncate takes are those up to the current one; that one changes nothing. */
    static int bufferLength(DrillContest x) {
        int length = 600;
        while (!x.truncate(length)) {
            length--;
        }
        return length;
    }

    private static void addDrill(StringBuilder text, DrillContest x, int drill) {
        int[] answers = {
            x.width(drill), x.radius(drill), x.hasControl(drill) ? 1 : 0, x.position(drill), x.passCount(drill),
            x.cost(drill), x.score(drill), x.place(drill), x.topCount(drill), x.unsown(drill), x.overlap(drill),
            x.mostSown(drill), x.bestTop(drill), x.outOfReach(drill), x.stoneToClear(drill), x.plan(drill),
            x.planOverlap(drill), x.planTurns(drill), x.planTop(drill, 0), x.greedyPasses(drill),
            x.greedyOverlap(drill), x.costToFinish(drill)
        };
        for (int answer : answers) {
            text.append(' ').append(answer);
        }
    }

    private static void addField(StringBuilder text, DrillContest x, int drill) {
        for (int row = 0; row < x.rowCount(); row++) {
            text.append('/');
            for (int column = 0; column < x.columnCount(); column++) {
                int kind = x.cellKind(drill, row, column);
                text.append(kind == DrillContest.SOIL ? " " + x.timesSown(drill, row, column) : kind == DrillContest.STONE ? " #" : " ~");
            }
        }
    }
}
