import java.lang.reflect.InvocationTargetException;
import java.lang.reflect.Method;
import java.util.ArrayList;
import java.util.Arrays;
import java.util.Comparator;
import java.util.List;
import java.util.Random;

/**
 * Calls of every method with all kinds of arguments, on fields of all sizes: each one answers or
 * throws just an exception that it declares, never one of the machine's own, which are below them.
 */
public final class WildTest {
    private static final Check check = new Check();
    private static final int[] EDGES = {
        Integer.MIN_VALUE, -289, -25, -13, -2, -1, 0, 1, 2, 3, 4, 5, 7, 8, 9, 11, 12, 13, 23, 24, 25, 31, 32, 33,
        288, 600, 601, Integer.MAX_VALUE
    };

    private final Random random;
    private final DrillContest x = new DrillContest();

    private WildTest(long seed) {
        random = new Random(seed);
    }

    public static void main(String[] args) throws IllegalAccessException {
        List<Method> methods = new ArrayList<>();
        for (Method m : DrillContest.class.getMethods()) {
            if (m.getDeclaringClass() == DrillContest.class) {
                methods.add(m);
            }
        }
        methods.sort(Comparator.comparing(Method::getName));
        check.same("methods", methods.size(), 64);
        for (int run = 0; run < 250; run++) {
            new WildTest(run).run(methods);
        }
        check.close("WildTest");
    }

    private void run(List<Method> methods) throws IllegalAccessException {
        if (random.nextInt(10) != 0) {
            Check.feed(x, text());
            x.load();
        }
        for (int k = 0; k < 450; k++) {
            call(methods.get(random.nextInt(methods.size())));
        }
    }

    private String text() {
        int rows = 1 + random.nextInt(12);
        int columns = 1 + random.nextInt(24);
        StringBuilder text = new StringBuilder("field " + rows + " " + columns + ";");
        for (int k = random.nextInt(5); k > 0; k--) {
            text.append("drill ").append((char) ('a' + k)).append(" ").append(1 + random.nextInt(Math.min(8, rows)))
                .append(" ").append(random.nextInt(10)).append(random.nextBoolean() ? ";" : "control;");
        }
        for (int k = random.nextInt(40); k > 0; k--) {
            text.append("stone ").append(random.nextInt(rows)).append(" ").append(random.nextInt(columns)).append(";");
        }
        return text.toString();
    }

    private int number() {
        return random.nextInt(4) == 0 ? EDGES[random.nextInt(EDGES.length)] : random.nextInt(random.nextBoolean() ? 3 : 12);
    }

    private void call(Method m) throws IllegalAccessException {
        // A text that is loaded anew each few calls would leave nothing to look at.
        if (m.getName().equals("load") && random.nextInt(20) != 0) {
            return;
        }
        Object[] args = new Object[m.getParameterCount()];
        for (int k = 0; k < args.length; k++) {
            args[k] = m.getParameterTypes()[k] == boolean.class ? (Object) random.nextBoolean() : (Object) number();
        }
        int depth = x.undoDepth();
        Class<?> thrown = null;
        try {
            m.invoke(x, args);
        } catch (InvocationTargetException e) {
            thrown = e.getCause().getClass();
        }
        if (thrown != null) {
            boolean declared = Arrays.asList(m.getExceptionTypes()).contains(thrown);
            check.same(m.getName() + Arrays.toString(args) + " threw " + thrown, declared, true);
            check.same("depth after " + m.getName() + " threw", x.undoDepth(), depth);
        }
    }
}
