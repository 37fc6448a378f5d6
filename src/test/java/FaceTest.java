import java.lang.reflect.Constructor;
import java.lang.reflect.Field;
import java.lang.reflect.Method;
import java.lang.reflect.Modifier;
import java.util.Set;
import java.util.TreeSet;

/** The face of the class is the one that the document shows: no more and no less. */
public final class FaceTest {
    private static final Check check = new Check();

    // Each method with its number of parameters, those that are no int, and what it throws.
    private static final String METHODS = """
        public int append 5
        public boolean truncate 1
        public int load 0 IllegalArgumentException
        public int errorOffset 0
        public int errorKind 0
        public int drillCount 0
        public int rowCount 0
        public int columnCount 0
        public int cellKind 3 IndexOutOfBoundsException
        public int timesSown 3 IndexOutOfBoundsException
        public int cellsOf 2 IndexOutOfBoundsException IllegalArgumentException
        public int unsown 1 IndexOutOfBoundsException
        public int overlap 1 IndexOutOfBoundsException
        public int mostSown 1 IndexOutOfBoundsException
        public int stoneClusters 1 IndexOutOfBoundsException
        public int largestCluster 1 IndexOutOfBoundsException
        public int largestRectangle 1 IndexOutOfBoundsException
        public int longestUnsownRun 2 IndexOutOfBoundsException
        public int emptiestRow 1 IndexOutOfBoundsException
        public int unsownInColumn 2 IndexOutOfBoundsException
        public int unsownRegions 1 IndexOutOfBoundsException
        public int stepsToUnsown 3 IndexOutOfBoundsException
        public int width 1 IndexOutOfBoundsException
        public int radius 1 IndexOutOfBoundsException
        public boolean hasControl 1 IndexOutOfBoundsException
        public int position 1 IndexOutOfBoundsException
        public int passCount 1 IndexOutOfBoundsException
        public int cost 1 IndexOutOfBoundsException
        public int score 1 IndexOutOfBoundsException
        public int place 1 IndexOutOfBoundsException
        public int drillAt 1 IllegalArgumentException
        public int topCount 1 IndexOutOfBoundsException
        public int turnCost 3 IndexOutOfBoundsException
        public int lowerings 2 IndexOutOfBoundsException
        public int loweredColumns 2 IndexOutOfBoundsException
        public int stonesUnder 2 IndexOutOfBoundsException
        public int firstLowered 2 IndexOutOfBoundsException
        public int lastLowered 2 IndexOutOfBoundsException
        public int gain 2 IndexOutOfBoundsException
        public int waste 2 IndexOutOfBoundsException
        public int passCost 2 IndexOutOfBoundsException
        public int bestTop 1 IndexOutOfBoundsException
        public int reachedBy 3 IndexOutOfBoundsException
        public int outOfReach 1 IndexOutOfBoundsException
        public int stoneToClear 1 IndexOutOfBoundsException
        public int plan 1 IndexOutOfBoundsException
        public int planOverlap 1 IndexOutOfBoundsException
        public int planTurns 1 IndexOutOfBoundsException
        public int planTop 2 IndexOutOfBoundsException
        public int passesWithWidth 2 IndexOutOfBoundsException IllegalArgumentException
        public int greedyPasses 1 IndexOutOfBoundsException
        public int greedyOverlap 1 IndexOutOfBoundsException
        public int costToFinish 1 IndexOutOfBoundsException
        public int pass 2 IndexOutOfBoundsException
        public int handSow 3 IndexOutOfBoundsException IllegalStateException
        public int clearStone 3 IndexOutOfBoundsException IllegalStateException
        public int setWidth 2 IndexOutOfBoundsException IllegalArgumentException
        public boolean setControl 2 boolean IndexOutOfBoundsException
        public int carryOutPlan 1 IndexOutOfBoundsException IllegalStateException
        public int undo 0
        public int undoDepth 0
        public int format 1 IndexOutOfBoundsException
        public int formatRow 2 IndexOutOfBoundsException
        public int formattedByte 1""";


    public static void main(String[] args) {
        constants();
        Set<String> due = new TreeSet<>();
        for (String line : METHODS.split("\n")) {
            due.add(line.trim());
        }
        Set<String> got = new TreeSet<>();
        Set<String> hidden = new TreeSet<>();
        for (Method m : DrillContest.class.getDeclaredMethods()) {
            if (Modifier.isPrivate(m.getModifiers())) {
                hidden.add(m.getName());
            } else {
                got.add(show(m));
            }
        }
        check.same("methods", String.join("\n", got), String.join("\n", due));
        for (Method m : DrillContest.class.getMethods()) {
            check.same("a private method named " + m.getName(), hidden.contains(m.getName()), false);
        }
        members();
        check.close("FaceTest");
    }

    private static void constants() {
        check.same("NONE", DrillContest.NONE, -1);
        check.same("SOIL", DrillContest.SOIL, 0);
        check.same("STONE", DrillContest.STONE, 1);
        check.same("WET", DrillContest.WET, 2);
        check.same("SYNTAX", DrillContest.SYNTAX, 1);
        check.same("BAD_NUMBER", DrillContest.BAD_NUMBER, 2);
        check.same("BAD_NAME", DrillContest.BAD_NAME, 3);
        check.same("TOO_MANY", DrillContest.TOO_MANY, 4);
    }

    private static void members() {
        int constants = 0;
        for (Field f : DrillContest.class.getDeclaredFields()) {
            if (!Modifier.isPrivate(f.getModifiers())) {
                constants++;
                check.same("modifiers of " + f.getName(), f.getModifiers(),
                    Modifier.PUBLIC | Modifier.STATIC | Modifier.FINAL);
            }
        }
        check.same("constants", constants, 8);
        Constructor<?>[] constructors = DrillContest.class.getDeclaredConstructors();
        check.same("constructors", constructors.length, 1);
        check.same("constructor is public", Modifier.isPublic(constructors[0].getModifiers()), true);
        check.same("class", DrillContest.class.getModifiers(), Modifier.PUBLIC | Modifier.FINAL);
        for (Class<?> inside : DrillContest.class.getDeclaredClasses()) {
            check.same(inside.getName() + " is static", Modifier.isStatic(inside.getModifiers()), true);
        }
    }

    private static String show(Method m) {
        StringBuilder text = new StringBuilder();
        text.append(Modifier.toString(m.getModifiers())).append(" ").append(m.getReturnType()).append(" ");
        text.append(m.getName()).append(" ").append(m.getParameterCount());
        for (Class<?> p : m.getParameterTypes()) {
            if (p != int.class) {
                text.append(" ").append(p);
            }
        }
        for (Class<?> e : m.getExceptionTypes()) {
            text.append(" ").append(e.getSimpleName());
        }
        return text.toString();
    }
}
