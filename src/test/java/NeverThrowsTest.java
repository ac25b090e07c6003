import java.lang.reflect.InvocationTargetException;
import java.lang.reflect.Method;
import java.util.Arrays;

/** No call throws, whatever the arguments, on an empty coast, a full one, and one where it is OVER. */
public final class NeverThrowsTest {
    private static final int LOW = Integer.MIN_VALUE, HIGH = Integer.MAX_VALUE;
    private static final int[] MANY = {
        LOW, LOW + 1, -1431655765, -65536, -257, -41, -21, -13, -2, -1, 0, 1, 2, 3, 4, 5, 6, 7, 8, 9, 15, 16, 20, 21, 39, 40, 41,
        63, 64, 99, 100, 200, 256, 999, 1000, 65536, 715827882, 1431655766, HIGH - 20, HIGH - 1, HIGH
    };
    private static final int[] FEW = {LOW, -256, -1, 0, 1, 5, 6, 7, 9, 15, 16, 40, 99, HIGH};
    private static int wrong = 0;

    public static void main(String[] args) throws IllegalAccessException {
        for (int scene = 0; scene < 3; scene++) {
            for (Method method : WindBrides.class.getDeclaredMethods()) {
                if (java.lang.reflect.Modifier.isPublic(method.getModifiers())) {
                    WindBrides x = sceneOf(scene);
                    callAll(x, method, new Object[method.getParameterCount()], 0);
                }
            }
        }
        if (wrong != 0) {
            System.exit(1);
        }
    }

    private static WindBrides sceneOf(int scene) {
        WindBrides x = new WindBrides();
        if (scene == 0) {
            return x;
        }
        for (int i = 0; i < 6; i++) {
            x.girl(1 + i % 5, i, i + 1);
            x.wind(7 - i, 9 - i, i / 2, 15 - i);
            x.promise(i, i / 2);
            x.report(1 + i % 5, i, 0, 99);
        }
        for (int i = 0; i < 4; i++) {
            x.sheet(i, i, 40);
            x.shelf(i, i % 2, i);
        }
        x.prove(4);
        x.keep();
        x.ends(16);
        for (int i = 0; i < 16 && scene == 2; i++) {
            x.month();
        }
        return x;
    }

    private static void callAll(WindBrides x, Method method, Object[] given, int place) throws IllegalAccessException {
        if (place == given.length) {
            call(x, method, given);
            return;
        }
        for (int v : given.length > 3 ? FEW : MANY) {
            given[place] = method.getParameterTypes()[place] == long.class ? (Object) ((long) v << 32 | v & 0xffffffffL) : (Object) v;
            callAll(x, method, given, place + 1);
        }
    }

    private static void call(WindBrides x, Method method, Object[] given) throws IllegalAccessException {
        try {
            method.invoke(x, given);
        } catch (InvocationTargetException e) {
            wrong++;
            System.out.println(method.getName() + Arrays.toString(given) + " threw " + e.getCause());
        }
    }
}
