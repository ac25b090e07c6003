import java.lang.reflect.InvocationTargetException;
import java.lang.reflect.Method;
import java.util.Arrays;
import java.util.Comparator;

/**
 * Each sentence of the document that names a boundary case has a method of its own, named after the promise's number,
 * in one of the classes that are run here.
 */
public final class EdgesTest {
    private static final Class<?>[] EDGES = {
        GirlsEdges.class, RulesEdges.class, MonthsEdges.class, PairsEdges.class, PlansEdges.class, ChanceEdges.class,
        RowsEdges.class, HostEdges.class, KeptEdges.class
    };
    private static final int PROMISES = 54;

    private static final int[] tests = new int[PROMISES + 1];
    private static String running = "";
    private static int wrong;

    public static void main(String[] args) throws IllegalAccessException {
        for (Class<?> edges : EDGES) {
            Method[] methods = edges.getDeclaredMethods();
            Arrays.sort(methods, Comparator.comparing(Method::getName));
            for (Method method : methods) {
                if (method.getName().startsWith("promise")) {
                    runOne(method);
                }
            }
        }
        running = "";
        for (int promise = 1; promise <= PROMISES; promise++) {
            if (tests[promise] == 0) {
                complain("promise " + promise + " has no test");
            }
        }
        if (wrong != 0) {
            System.out.println(wrong + " answers are not as due");
            System.exit(1);
        }
    }

    static void complain(String what) {
        wrong++;
        System.out.println(running + ": " + what);
    }

    private static void runOne(Method method) throws IllegalAccessException {
        running = method.getName();
        tests[Integer.parseInt(running.substring(7, 9))]++;
        method.setAccessible(true);
        try {
            method.invoke(null);
        } catch (InvocationTargetException e) {
            complain("" + e.getCause());
        }
    }
}
