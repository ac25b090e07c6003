import java.io.IOException;
import java.lang.reflect.Method;
import java.lang.reflect.Modifier;
import java.nio.file.Files;
import java.nio.file.Path;
import java.util.regex.Matcher;
import java.util.regex.Pattern;

/** What README.md says of the class is so: each call in it answers the number behind it, and no call is left out. */
public final class ReadmeTest {
    private static final Pattern CALL = Pattern.compile("coast\\.(\\w+)\\(([^)]*)\\);\\s*// (-?\\d+).*");
    private static final int LEAST_CALLS = 30;

    private static int wrong;
    private static int calls;

    public static void main(String[] args) throws IOException, ReflectiveOperationException {
        String readme = Files.readString(Path.of("README.md"));
        WindBrides coast = new WindBrides();
        for (String line : readme.split("\n")) {
            if (line.equals("WindBrides coast = new WindBrides();")) {
                coast = new WindBrides();
            } else if (line.startsWith("coast.")) {
                look(coast, line);
            }
        }
        for (Method method : WindBrides.class.getDeclaredMethods()) {
            if (Modifier.isPublic(method.getModifiers()) && !readme.contains("`" + method.getName() + "`")) {
                complain(method.getName() + " is not named");
            }
        }
        if (calls < LEAST_CALLS) {
            complain("only " + calls + " calls were found");
        }
        if (wrong != 0) {
            System.exit(1);
        }
    }

    private static void complain(String what) {
        wrong++;
        System.out.println("README.md: " + what);
    }

    private static void look(WindBrides coast, String line) throws ReflectiveOperationException {
        Matcher m = CALL.matcher(line);
        if (!m.matches()) {
            complain("no answer stands behind " + line);
            return;
        }
        calls++;
        int got = answer(coast, m.group(1), m.group(2).isEmpty() ? new String[0] : m.group(2).split(", "));
        if (got != Integer.parseInt(m.group(3))) {
            complain(m.group(1) + "(" + m.group(2) + ") answered " + got + ", it says " + m.group(3));
        }
    }

    private static int answer(WindBrides coast, String name, String[] args) throws ReflectiveOperationException {
        for (Method method : WindBrides.class.getMethods()) {
            if (method.getName().equals(name) && method.getParameterCount() == args.length) {
                Object[] given = new Object[args.length];
                for (int i = 0; i < args.length; i++) {
                    long v = Long.decode(args[i].replace("L", ""));
                    given[i] = method.getParameterTypes()[i] == long.class ? (Object) v : (Object) (int) v;
                }
                return (int) method.invoke(coast, given);
            }
        }
        throw new NoSuchMethodException(name);
    }
}
