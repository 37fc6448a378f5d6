import java.lang.reflect.InvocationTargetException;
import java.lang.reflect.Method;
import java.util.Arrays;

/**
 * "IndexOutOfBoundsException is thrown if a parameter named drill, row or column is not an existing
 * index, or if a parameter named top (first and second, too) is not the top row of a pass"; and "a
 * call that throws changes nothing". Every method that has such a parameter is called with the
 * nearest wrong values on both sides, and with the least and the greatest right ones.
 */
public final class RefusedTest {
    private static final Check check = new Check();

    // What the parameters of each method are: d drill, r row, c column, t top row, and others that
    // are no index: k kind, w width, n any number, b boolean.
    private static final String[] METHODS = {
        "cellKind drc", "timesSown drc", "cellsOf dk", "unsown d", "overlap d", "mostSown d", "stoneClusters d",
        "largestCluster d", "largestRectangle d", "longestUnsownRun dr", "emptiestRow d", "unsownInColumn dc",
        "unsownRegions d", "stepsToUnsown drc", "width d", "radius d", "hasControl d", "position d", "passCount d",
        "cost d", "score d", "place d", "topCount d", "turnCost dtt", "lowerings dt", "loweredColumns dt",
        "stonesUnder dt", "firstLowered dt", "lastLowered dt", "gain dt", "waste dt", "passCost dt", "bestTop d",
        "reachedBy drc", "outOfReach d", "stoneToClear d", "plan d", "planOverlap d", "planTurns d", "planTop dn",
        "passesWithWidth dw", "greedyPasses d", "greedyOverlap d", "costToFinish d", "pass dt", "handSow drc",
        "clearStone drc", "setWidth dw", "setControl db", "carryOutPlan d", "format d", "formatRow dr"
    };

    public static void main(String[] args) throws IllegalAccessException {
        check.same("methods with a drill", METHODS.length, 52);
        withoutDrills(new DrillContest());
        withoutDrills(Check.loaded("field 12 24;"));
        DrillContest emptied = Check.loaded("field 12 24;drill a 1 0;drill b 1 0;");
        Check.feed(emptied, "field 1 1;");
        emptied.load();
        withoutDrills(emptied);
        wrongIndexes("field 1 1;drill a 1 0;");
        wrongIndexes("field 12 24;stone 3 3;wet 5 5 6 6;drill a 8 1;drill b 8 0 control;drill c 7 2;drill d 8 3;");
        wrongIndexes("field 3 5;stone 1 1;wet 2 2 2 2;drill a 2 1;drill b 1 0 control;drill c 3 2;");
        afterAnotherWidth();
        firstListedException();
        refusedStates();
        check.close("RefusedTest");
    }

    private static Class<?> thrownBy(DrillContest x, String method, int[] numbers) throws IllegalAccessException {
        String name = method.substring(0, method.indexOf(' '));
        for (Method m : DrillContest.class.getMethods()) {
            if (m.getName().equals(name)) {
                Object[] given = new Object[numbers.length];
                for (int k = 0; k < given.length; k++) {
                    given[k] = m.getParameterTypes()[k] == boolean.class ? (Object) (numbers[k] != 0) : (Object) numbers[k];
                }
                try {
                    m.invoke(x, given);
                    return null;
                } catch (InvocationTargetException e) {
                    return e.getCause().getClass();
                }
            }
        }
        throw new IllegalStateException("no method " + name);
    }

    private static String kindsOf(String method) {
        return method.substring(method.indexOf(' ') + 1);
    }

    private static void refused(DrillContest x, String method, int[] numbers) throws IllegalAccessException {
        Class<?> got = thrownBy(x, method, numbers);
        check.same(method + Arrays.toString(numbers) + " threw " + got, got == IndexOutOfBoundsException.class, true);
    }

    private static void withoutDrills(DrillContest x) throws IllegalAccessException {
        String before = Snapshot.of(x);
        for (String method : METHODS) {
            int[] numbers = new int[kindsOf(method).length()];
            for (int drill : new int[] {-1, 0, 1, 3, 4, Integer.MIN_VALUE, Integer.MAX_VALUE}) {
                numbers[0] = drill;
                refused(x, method, numbers);
            }
        }
        check.same("nothing changed", Snapshot.of(x), before);
    }

    /** How many right values a parameter of a kind has, from 0 on. */
    private static int countOf(DrillContest x, char kind, int drill) {
        switch (kind) {
            case 'd':
                return x.drillCount();
            case 'r':
                return x.rowCount();
            case 'c':
                return x.columnCount();
            default:
                return x.topCount(drill);
        }
    }

    private static void wrongIndexes(String text) throws IllegalAccessException {
        DrillContest x = Check.loaded(text);
        x.pass(0, 0);
        x.format(0);
        Check.feed(x, "oops");
        check.badArgument("a wrong text", x::load);
        Check.feed(x, "field");
        String before = Snapshot.of(x);
        for (String method : METHODS) {
            String kinds = kindsOf(method);
            for (int at = 0; at < kinds.length(); at++) {
                if ("drct".indexOf(kinds.charAt(at)) >= 0) {
                    wrongAt(x, method, at);
                }
            }
        }
        check.same("nothing changed", Snapshot.of(x), before);
        for (String method : METHODS) {
            rightEnds(text, method);
        }
    }

    private static void wrongAt(DrillContest x, String method, int at) throws IllegalAccessException {
        String kinds = kindsOf(method);
        for (int drill = 0; drill < x.drillCount(); drill++) {
            int count = countOf(x, kinds.charAt(at), drill);
            for (int wrong : new int[] {-1, count, count + 1, 24, Integer.MIN_VALUE, Integer.MAX_VALUE}) {
                int[] numbers = new int[kinds.length()];
                numbers[0] = drill;
                numbers[at] = wrong;
                refused(x, method, numbers);
                // The others at their ends: an index may not make up for another one.
                for (int k = 1; k < numbers.length; k++) {
                    if (k != at && "rct".indexOf(kinds.charAt(k)) >= 0) {
                        numbers[k] = countOf(x, kinds.charAt(k), drill) - 1;
                    }
                }
                refused(x, method, numbers);
            }
        }
    }

    /** The least and the greatest index of each kind are taken: another exception is one of a state. */
    private static void rightEnds(String text, String method) throws IllegalAccessException {
        String kinds = kindsOf(method);
        int drills = Check.loaded(text).drillCount();
        for (int drill = 0; drill < drills; drill++) {
            for (int ends = 0; ends < 1 << kinds.length() - 1; ends++) {
                DrillContest x = Check.loaded(text);
                int[] numbers = new int[kinds.length()];
                numbers[0] = drill;
                for (int k = 1; k < numbers.length; k++) {
                    boolean index = "rct".indexOf(kinds.charAt(k)) >= 0;
                    int last = index ? countOf(x, kinds.charAt(k), drill) - 1 : 1;
                    numbers[k] = (ends >> k - 1 & 1) == 0 && kinds.charAt(k) != 'w' ? 0 : last;
                }
                Class<?> got = thrownBy(x, method, numbers);
                boolean fits = got == null || got == IllegalStateException.class;
                check.same(method + Arrays.toString(numbers) + " threw " + got, fits, true);
            }
        }
    }

    /** The top rows of passes are those of the width that the drill has now. */
    private static void afterAnotherWidth() throws IllegalAccessException {
        DrillContest x = Check.loaded("field 5 3;drill a 2 0;");
        x.setWidth(0, 4);
        for (String method : METHODS) {
            if (kindsOf(method).startsWith("dt")) {
                int[] numbers = new int[kindsOf(method).length()];
                numbers[1] = 2;
                refused(x, method, numbers);
                numbers[1] = 1;
                check.same(method + " at the last top row", thrownBy(x, method, numbers) == null, true);
            }
        }
        x.setWidth(0, 1);
        check.same("the last row is a top row", x.loweredColumns(0, 4), 3);
        check.outOfBounds("behind the last row", () -> x.gain(0, 5));
    }

    private static void firstListedException() {
        DrillContest x = Check.loaded("field 2 2;stone 0 0;drill a 1 0;");
        x.pass(0, 0);
        x.pass(0, 1);
        String before = Snapshot.of(x);
        check.outOfBounds("drill before kind", () -> x.cellsOf(1, 3));
        check.outOfBounds("drill before width", () -> x.passesWithWidth(-1, 0));
        check.outOfBounds("drill before width", () -> x.setWidth(-1, 9));
        check.outOfBounds("drill before state", () -> x.handSow(1, 0, 0));
        check.outOfBounds("row before state", () -> x.handSow(0, 2, 0));
        check.outOfBounds("column before state", () -> x.handSow(0, 0, 2));
        check.outOfBounds("drill before state", () -> x.clearStone(1, 1, 1));
        check.outOfBounds("row before state", () -> x.clearStone(0, -1, 1));
        check.outOfBounds("column before state", () -> x.clearStone(0, 1, -1));
        check.outOfBounds("drill before state", () -> x.carryOutPlan(1));
        check.same("nothing changed", Snapshot.of(x), before);
    }

    private static void refusedStates() {
        DrillContest x = Check.loaded("field 2 3;stone 0 0;wet 0 1 0 1;drill a 1 0;drill b 1 0;hand 9;clear 9;");
        x.handSow(0, 0, 2);
        x.pass(0, 1);
        x.formatRow(0, 0);
        Check.feed(x, "field 9 9;");
        String before = Snapshot.of(x);
        check.badState("56 a STONE", () -> x.handSow(0, 0, 0));
        check.badState("56 WET", () -> x.handSow(0, 0, 1));
        check.badState("56 sown by hand", () -> x.handSow(0, 0, 2));
        check.badState("56 sown by a pass", () -> x.handSow(0, 1, 1));
        check.badState("57 WET", () -> x.clearStone(0, 0, 1));
        check.badState("57 sown SOIL", () -> x.clearStone(0, 0, 2));
        check.badState("57 unsown SOIL", () -> x.clearStone(1, 1, 1));
        check.badArgument("58 width 0", () -> x.setWidth(0, 0));
        check.badArgument("58 width 3", () -> x.setWidth(0, 3));
        check.badState("60 no pass is needed", () -> x.carryOutPlan(0));
        check.badArgument("12 kind 3", () -> x.cellsOf(0, 3));
        check.badArgument("32 place 2", () -> x.drillAt(2));
        check.badArgument("51 width 3", () -> x.passesWithWidth(0, 3));
        check.same("nothing changed", Snapshot.of(x), before);
        check.same("the buffer is as it was", x.load(), 0);
        check.same("its rows", x.rowCount(), 9);
    }
}
