import java.io.IOException;
import java.lang.reflect.Constructor;
import java.lang.reflect.Field;
import java.lang.reflect.Method;
import java.lang.reflect.Modifier;
import java.nio.file.Files;
import java.nio.file.Path;
import java.util.Arrays;
import java.util.Set;
import java.util.TreeSet;
import java.util.regex.Matcher;
import java.util.regex.Pattern;

/** The rules of LANGUAGE.md that can be looked up in the source and in the classes. */
public final class LanguageTest {
    private static final String FACE = "act again alterRow anew bars best bound breaks change courted dowryFor ends feed "
        + "first forget gain game girl girlOf goAll item ith judge keep kept lot leave liar many month often on play promise "
        + "prove remake report ring row rules seed sheet shelf span state taken trace wind windFor windOf wouldBe write ways";
    private static final String[] FORBIDDEN = {
        "\\bthrow\\b", "\\btry\\b", "\\bcatch\\b", "\\bsynchronized\\b", "\\bassert\\b", "->", "::", "\\bimport\\b", "\\bpackage\\b",
        "\\bprotected\\b", "\\brecord\\b", "\\benum\\b", "\\binterface\\b", "\\bequals\\b", "\\bhashCode\\b", "\\btoString\\b",
        "Exact\\b", "\\bvalues\\(", "\\bdouble\\b", "\\bfloat\\b", "@", "\\bSystem\\.(?!arraycopy\\b)", "\\bMath\\.random", "\"\\s*\\+", "\\+\\s*\""
    };
    private static int wrong = 0;

    public static void main(String[] args) throws IOException {
        String source = Files.readString(Path.of("src/main/java/WindBrides.java"));
        String code = source.replaceAll("(?s)/\\*.*?\\*/", " ").replaceAll("//[^\n]*", "");
        for (String forbidden : FORBIDDEN) {
            Matcher m = Pattern.compile(forbidden).matcher(code);
            if (m.find()) {
                complain("the source has " + m.group());
            }
        }
        for (int i = 0; i < source.length(); i++) {
            if (source.charAt(i) > 126) {
                complain("a sign above 126 at " + i);
            }
        }
        face();
        classes();
        methodLengths(code);
        if (wrong != 0) {
            System.exit(1);
        }
    }

    private static void complain(String what) {
        wrong++;
        System.out.println(what);
    }

    private static void face() {
        Set<String> due = new TreeSet<>(Arrays.asList(FACE.split(" ")));
        Set<String> there = new TreeSet<>();
        for (Method m : WindBrides.class.getDeclaredMethods()) {
            if (Modifier.isPublic(m.getModifiers())) {
                there.add(m.getName());
            } else if (!Modifier.isPrivate(m.getModifiers()) || due.contains(m.getName())) {
                complain("method " + m);
            }
        }
        if (!due.equals(there) || due.size() != 53) {
            complain("the face is " + there);
        }
        Constructor<?>[] constructors = WindBrides.class.getDeclaredConstructors();
        if (constructors.length != 1 || !Modifier.isPublic(constructors[0].getModifiers())) {
            complain("constructors " + Arrays.toString(constructors));
        }
        for (Field f : WindBrides.class.getDeclaredFields()) {
            boolean constant = Set.of("BAD", "FULL", "NONE", "STATE").contains(f.getName());
            if (constant != Modifier.isPublic(f.getModifiers()) || (!constant && !Modifier.isPrivate(f.getModifiers()))) {
                complain("field " + f);
            }
        }
    }

    private static void classes() {
        Class<?>[] inside = WindBrides.class.getDeclaredClasses();
        if (inside.length + 1 > 12) {
            complain(inside.length + 1 + " classes");
        }
        for (Class<?> c : inside) {
            if (!Modifier.isStatic(c.getModifiers()) || Modifier.isPublic(c.getModifiers())) {
                complain("class " + c);
            }
            oneClass(c);
        }
        oneClass(WindBrides.class);
    }

    private static void oneClass(Class<?> c) {
        int fields = 0;
        for (Field f : c.getDeclaredFields()) {
            boolean isStatic = Modifier.isStatic(f.getModifiers());
            fields += isStatic ? 0 : 1;
            if (isStatic && !Modifier.isFinal(f.getModifiers())) {
                complain("static field " + f);
            }
        }
        if (fields > 20) {
            complain(fields + " fields in " + c);
        }
        for (Method m : c.getDeclaredMethods()) {
            if (m.getParameterCount() > 7) {
                complain("parameters of " + m);
            }
            if (Modifier.isPrivate(m.getModifiers()) && Arrays.asList(FACE.split(" ")).contains(m.getName())) {
                complain("a name of the face for " + m);
            }
        }
    }

    private static void methodLengths(String code) {
        Matcher m = Pattern.compile("(?m)^( {4}| {8})\\S.*\\) \\{\n(?s:.*?)^\\1\\}").matcher(code);
        int found = 0;
        while (m.find()) {
            found++;
            if (m.group().split("\n").length > 60) {
                complain("a long method: " + m.group().split("\n")[0]);
            }
        }
        if (found < 100) {
            complain("only " + found + " methods were found");
        }
    }
}
