import java.lang.reflect.InvocationTargetException;
import java.lang.reflect.Method;
import java.util.ArrayList;
import java.util.Arrays;
import java.util.HashMap;
import java.util.List;
import java.util.Map;

/**
 * An object with the calls that it has had. Whether a call changed nothing can only be told by asking for everything,
 * which uses an object up; so its like is made again, by the same calls, once with that call and once without it.
 */
final class Run implements Answers {
    /** What an object answers behind so many calls is free, so no test may go by it. */
    private static final int MOST_CALLS = 512;

    private static final Map<String, Method> METHODS = new HashMap<>();

    static {
        for (Method m : WindBrides.class.getMethods()) {
            METHODS.put(m.getName(), m);
        }
    }

    private record Call(String name, long[] args) {
        public String toString() {
            String all = Arrays.toString(args);
            return name + "(" + all.substring(1, all.length() - 1) + ")";
        }
    }

    private final WindBrides object = new WindBrides();
    private final List<Call> calls = new ArrayList<>();

    int call(String name, long... args) {
        Method method = METHODS.get(name);
        Object[] given = new Object[method.getParameterCount()];
        for (int i = 0; i < given.length; i++) {
            given[i] = method.getParameterTypes()[i] == long.class ? (Object) args[i] : (Object) Math.toIntExact(args[i]);
        }
        calls.add(new Call(name, args));
        if (calls.size() > MOST_CALLS) {
            throw new IllegalStateException("more than " + MOST_CALLS + " calls");
        }
        try {
            return (int) method.invoke(object, given);
        } catch (InvocationTargetException e) {
            throw new IllegalStateException(calls.get(calls.size() - 1) + " threw " + e.getCause(), e.getCause());
        } catch (IllegalAccessException e) {
            throw new IllegalStateException(e);
        }
    }

    int size() {
        return calls.size();
    }

    /** The answer that is due. */
    Run due(int want, String name, long... args) {
        int got = call(name, args);
        if (got != want) {
            EdgesTest.complain(calls.get(calls.size() - 1) + " answered " + got + ", due is " + want);
        }
        return this;
    }

    /** The answer that is due, of a call that changes nothing: since it is refused, or since it only asks. */
    Run still(int want, String name, long... args) {
        Run without = again();
        due(want, name, args);
        String there = again().looks();
        String due = without.looks();
        if (!there.equals(due)) {
            EdgesTest.complain(calls.get(calls.size() - 1) + " changed\n  " + due + "\n  " + there);
        }
        return this;
    }

    /** The argument at a place is from least to most: these two are taken, what lies beyond is BAD. */
    Run bounds(int least, int most, int place, String name, long... args) {
        for (long v : new long[] {LOW, least - 256L, least - 1L, most + 1L, most + 256L, HIGH}) {
            still(BAD, name, with(args, place, v));
        }
        for (long v : new long[] {least, most}) {
            if (again().call(name, with(args, place, v)) == BAD) {
                EdgesTest.complain(new Call(name, with(args, place, v)) + " answered BAD");
            }
        }
        return this;
    }

    private static long[] with(long[] args, int place, long v) {
        long[] changed = args.clone();
        changed[place] = v;
        return changed;
    }

    /** The same call, so many times. */
    Run times(int n, String name, long... args) {
        for (int i = 0; i < n; i++) {
            call(name, args);
        }
        return this;
    }

    Run feed(String text) {
        for (int i = 0; i < text.length(); i += 8) {
            int n = Math.min(8, text.length() - i);
            long eight = 0;
            for (int k = n - 1; k >= 0; k--) {
                eight = eight << 8 | text.charAt(i + k);
            }
            call("feed", eight, n);
        }
        return this;
    }

    /** What rules() answers to a TEXT. */
    Run told(int want, String text) {
        feed(text);
        int got = call("rules");
        if (got != want) {
            EdgesTest.complain("[" + text + "] was answered by " + got + ", due is " + want);
        }
        return this;
    }

    /** A GIRL of this KIND with HOUSE 0 and this DOWRY, promised to a WIND that points there. */
    Run pair(int kind, int dowry, int force, int from, int to) {
        int g = call("girl", kind, 0, dowry);
        int w = call("wind", 0, force, from, to);
        call("promise", g, w);
        return this;
    }

    Run again() {
        Run run = new Run();
        for (Call call : calls) {
            run.call(call.name, call.args);
        }
        return run;
    }

    /** As much of everything as there may be, in the middle of it. */
    static Run full() {
        Run x = new Run();
        for (int i = 0; i < 6; i++) {
            x.call("girl", 1 + i % 5, i + 2, i + 2);
            x.call("wind", 7 - i, 9 - i, i / 2, 15 - i);
            x.call("promise", i, i / 2);
            x.call("report", 1 + i % 5, i, i, 90);
        }
        x.feed("girl if month=2 turn;bred leave;").call("rules");
        x.call("keep");
        x.times(2, "month");
        x.call("promise", 5, -1);
        x.call("seed", 12345);
        x.call("prove", 3);
        for (int sheet = 0; sheet < 3; sheet++) {
            x.call("sheet", sheet, sheet, 3);
            x.call("write", sheet, 1, 5);
        }
        x.call("shelf", 0, 0, 2);
        x.call("shelf", 1, 1, 1);
        x.call("act", 0, 3, 9);
        x.feed("girl wait; late");
        return x;
    }

    /** All that can be asked for, and then what is told only by calls that change something. */
    private String looks() {
        StringBuilder all = new StringBuilder();
        lookAtCoast(all);
        ask(all, "row", 4, 3);
        lookAtSheets(all);
        for (int shelf = 0; shelf < 4; shelf++) {
            for (int as = 0; as < 15; as = as == 5 ? 10 : as + 1) {
                all.append(call("taken", shelf, as)).append(' ');
            }
        }
        for (int i = call("many", 6) - 1; i >= 0; i--) {
            all.append(call("trace", i)).append(' ');
        }
        all.append("| z ").append(call("seed", 0));
        all.append(" | told ").append(call("rules"));
        all.append(" | kept ").append(call("again")).append(' ');
        lookAtCoast(all);
        return all.append(call("seed", 0)).toString();
    }

    private void lookAtCoast(StringBuilder all) {
        all.append("many ");
        for (int what = 0; what < 8; what++) {
            all.append(call("many", what)).append(' ');
        }
        all.append("| state ");
        for (int what = 0; what < 4; what++) {
            all.append(call("state", what)).append(' ');
        }
        ask(all, "girlOf", call("many", 0), 6);
        ask(all, "windOf", call("many", 2), 6);
        all.append("| reports ").append(call("span", 0)).append(' ').append(call("span", 1)).append(' ').append(call("span", 2));
        all.append(' ').append(call("liar")).append(' ');
    }

    private void ask(StringBuilder all, String name, int things, int whats) {
        all.append("| ").append(name).append(' ');
        for (int i = 0; i < things; i++) {
            for (int what = 0; what < whats; what++) {
                all.append(call(name, i, what)).append(' ');
            }
        }
    }

    private void lookAtSheets(StringBuilder all) {
        for (int sheet = 0; sheet < 4; sheet++) {
            int sort = 0;
            while (sort < 4 && call("item", sheet, sort, 0) == OTHER_SORT) {
                sort++;
            }
            all.append("| sheet of sort ").append(sort).append(' ');
            int item = 0;
            for (int i = 0; i < 41 && item != OUTSIDE && item != NOTHING; i++) {
                item = call("item", sheet, sort, i);
                all.append(item).append(' ');
            }
        }
    }
}
