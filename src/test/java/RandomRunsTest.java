import java.lang.reflect.Method;
import java.util.ArrayList;
import java.util.HashMap;
import java.util.List;
import java.util.Map;
import java.util.Random;

/** Random runs of calls, always the same ones, held against the plain model. */
public final class RandomRunsTest {
    private static final int RUNS = 400;
    private static final int CALLS = 512;
    private static final String[] PLAN_CALLS = {"best", "ith", "ways", "bound", "bars", "game", "play", "prove"};
    private static final String[] CALLS_AT_ALL = {
        "girl", "girlOf", "girlOf", "change", "remake", "wind", "windOf", "promise", "promise", "promise", "gain", "ends",
        "anew", "state", "month", "month", "on", "courted", "breaks", "windFor", "dowryFor", "leave", "first", "kept",
        "ring", "plan", "plan", "report", "forget", "span", "liar", "seed", "lot", "often", "row", "alterRow", "judge",
        "sheet", "write", "write", "item", "goAll", "wouldBe", "shelf", "taken", "act", "act", "trace", "many", "keep",
        "again", "text", "feed", "rules"
    };
    private static final int[] EXTREMES = {Integer.MIN_VALUE, Integer.MIN_VALUE + 1, Integer.MAX_VALUE, Integer.MAX_VALUE - 1, 1 << 16, -1 << 8, 41, -41};
    private static final Map<String, Method> METHODS = new HashMap<>();

    private final Random random;
    private final WindBrides real = new WindBrides();
    private final PlainCoast plain = new PlainCoast();
    private final List<String> told = new ArrayList<>();
    private int calls;
    private boolean wrong;

    private RandomRunsTest(long seed) {
        random = new Random(seed);
    }

    public static void main(String[] args) throws ReflectiveOperationException {
        for (Method m : WindBrides.class.getMethods()) {
            METHODS.put(m.getName(), m);
        }
        int runs = args.length > 0 ? Integer.parseInt(args[0]) : RUNS;
        long from = args.length > 1 ? Long.parseLong(args[1]) : 0;
        int wrongRuns = 0;
        for (long seed = from; seed < from + runs && wrongRuns < 5; seed++) {
            RandomRunsTest run = new RandomRunsTest(seed);
            run.go();
            if (run.wrong) {
                wrongRuns++;
                System.out.println("run " + seed + ": " + String.join("; ", run.told));
            }
        }
        if (wrongRuns != 0) {
            System.exit(1);
        }
    }

    private void go() throws ReflectiveOperationException {
        int girls = random.nextInt(7);
        int winds = random.nextInt(7);
        for (int i = 0; i < girls; i++) {
            ask("girl", 1 + random.nextInt(5), random.nextInt(8), 1 + random.nextInt(random.nextBoolean() ? 3 : 9));
        }
        for (int i = 0; i < winds; i++) {
            int from = random.nextInt(16);
            ask("wind", random.nextInt(8), 1 + random.nextInt(9), from / 2, from + random.nextInt(16 - from));
        }
        for (int i = 0; i < girls && winds > 0; i++) {
            ask("promise", i, random.nextInt(winds));
        }
        while (calls < CALLS && !wrong) {
            one(CALLS_AT_ALL[random.nextInt(CALLS_AT_ALL.length)]);
        }
    }

    private void one(String name) throws ReflectiveOperationException {
        switch (name) {
            case "text": feedText(); break;
            case "plan":
                String plan = PLAN_CALLS[random.nextInt(PLAN_CALLS.length)];
                int n = random.nextInt(8) == 0 ? 4 : random.nextInt(4);
                ask(plan, rarelyOff(n, 0, 4), plan.equals("ith") ? rarelyOff(random.nextInt(4), 0, 3) : set());
                break;
            case "feed": ask("feed", random.nextLong(), 1 + random.nextInt(8)); break;
            case "seed": ask("seed", random.nextInt()); break;
            case "act": ask("act", small(4), small(4), random.nextBoolean() ? random.nextInt(40) - 20 : random.nextInt()); break;
            case "alterRow": ask("alterRow", small(4), small(3), random.nextInt(70) - 2); break;
            case "write": ask("write", small(4), small(20), random.nextInt(4) == 0 ? random.nextInt() : random.nextInt(8)); break;
            case "sheet": ask("sheet", small(4), random.nextInt(3) == 0 ? 0 : random.nextInt(7) - 1, random.nextInt(46) - 3); break;
            case "item": case "goAll": case "wouldBe": ask(name, small(4), small(5), small(22)); break;
            case "report":
                int least = random.nextInt(10);
                ask("report", 1 + small(5), small(8), least, random.nextInt(30) == 0 ? 100 : least + random.nextInt(6) - 1);
                break;
            case "often": ask("often", small(42), random.nextInt(120) - 1); break;
            case "ends": ask("ends", random.nextInt(3) == 0 ? 16 : random.nextInt(19)); break;
            case "wind": ask("wind", small(8), small(10), small(16), small(17)); break;
            case "girl": ask("girl", small(6), small(8), small(10)); break;
            case "promise": ask("promise", small(6), random.nextInt(8) - 1); break;
            case "forget": case "anew": case "again":
                if (random.nextInt(3) == 0) {
                    ask(name);
                }
                break;
            default: ask(name, small(6), small(6), small(16), small(16)); break;
        }
    }

    private int small(int count) {
        return random.nextInt(25) == 0 ? random.nextInt(3) - 2 : random.nextInt(25) == 0 ? count + random.nextInt(3) : random.nextInt(count);
    }

    private int rarelyOff(int v, int least, int most) {
        return random.nextInt(20) == 0 ? (random.nextBoolean() ? least - 1 : most + 1) : v;
    }

    private int set() {
        return random.nextInt(15) == 0 ? random.nextInt() : random.nextInt(64) & random.nextInt(64);
    }

    private void ask(String name, long... args) throws ReflectiveOperationException {
        if (random.nextInt(60) == 0 && args.length > 0) {
            args[random.nextInt(args.length)] = EXTREMES[random.nextInt(EXTREMES.length)];
        }
        Method method = METHODS.get(name);
        Object[] given = new Object[method.getParameterCount()];
        StringBuilder call = new StringBuilder(name).append('(');
        for (int i = 0; i < given.length; i++) {
            given[i] = method.getParameterTypes()[i] == long.class ? (Object) args[i] : (Object) (int) args[i];
            call.append(i == 0 ? "" : ", ").append(given[i]);
        }
        int answer = (int) method.invoke(real, given);
        int due = plain.call(name, java.util.Arrays.copyOf(args, given.length));
        told.add(call.append(") = ").append(answer).toString());
        calls++;
        if (answer != due && !wrong) {
            wrong = true;
            told.add("due was " + due);
        }
    }

    private void feedText() throws ReflectiveOperationException {
        String text = text();
        for (int i = 0; i < text.length() && calls < CALLS - 1 && !wrong; ) {
            int n = Math.min(text.length() - i, random.nextInt(4) == 0 ? 1 + random.nextInt(8) : 8);
            long eight = 0;
            for (int k = n - 1; k >= 0; k--) {
                eight = eight << 8 | text.charAt(i + k) & 255;
            }
            ask("feed", eight, n);
            i += n;
        }
        ask("many", 5);
        ask("rules");
        for (int g = 0; g < 6; g++) {
            ask("girlOf", g, 5);
        }
    }

    private String text() {
        StringBuilder text = new StringBuilder();
        int rules = random.nextInt(5) == 0 ? 8 + random.nextInt(2) : 1 + random.nextInt(4);
        for (int i = 0; i < rules; i++) {
            text.append(pick("girl", "shared", "bred", "twice", "late", "calm", "girl"));
            if (random.nextInt(3) != 0 && rules < 8) {
                text.append(" if").append(space()).append(cond(random.nextInt(5) == 0 ? 4 : 2));
            }
            text.append(' ').append(pick("wait", "turn", "turn", "leave")).append(space()).append(';').append(space());
        }
        if (random.nextInt(4) == 0 && text.length() > 0) {
            spoil(text);
        }
        return text.length() > 200 ? text.substring(0, 200) : text.toString();
    }

    private void spoil(StringBuilder text) {
        int place = random.nextInt(text.length());
        switch (random.nextInt(4)) {
            case 0: text.deleteCharAt(place); break;
            case 1: text.insert(place, "( );<=>09azif not\u00ff\t".charAt(random.nextInt(19))); break;
            case 2: text.setLength(place); break;
            default: text.setCharAt(place, "( );<=>09azif not\u0000G".charAt(random.nextInt(19))); break;
        }
    }

    private String cond(int depth) {
        String one = one(depth);
        int parts = random.nextInt(3);
        for (int i = 0; i < parts; i++) {
            one = one + " " + pick("and", "or") + " " + one(depth);
        }
        return one;
    }

    private String one(int depth) {
        String nots = pick("", "", "", "not ", "not not ", "not(");
        if (nots.equals("not(") || (depth > 0 && random.nextInt(4) == 0)) {
            return nots.replace("(", "") + "(" + cond(depth - 1) + ")";
        }
        return nots + value() + space() + pick("<", "=", ">") + space() + value();
    }

    private String value() {
        return pick("month", "faith", "dowry", "house", "number", "" + random.nextInt(12), "" + random.nextInt(10), "000" + random.nextInt(random.nextInt(9) == 0 ? 12 : 9));
    }

    private String space() {
        return pick("", "", " ", "  ");
    }

    private String pick(String... words) {
        return words[random.nextInt(words.length)];
    }
}
