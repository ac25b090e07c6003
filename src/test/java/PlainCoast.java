import java.util.ArrayList;
import java.util.Arrays;
import java.util.List;

/**
 * The document once more, written as slowly and plainly as can be, so that random runs can be held against it.
 * It shares no code and few ways of doing things with WindBrides: plans are counted out, promises that nobody
 * leaves are found among all ways to promise, texts are read by exceptions.
 */
final class PlainCoast {
    static final int BAD = -1, FULL = -2, NONE = -3, STATE = -4;

    static final class Girl {
        int kind, house, dowry, wind = 6, faith;

        Girl copy() {
            Girl g = new Girl();
            g.kind = kind;
            g.house = house;
            g.dowry = dowry;
            g.wind = wind;
            g.faith = faith;
            return g;
        }
    }

    record Wind(int point, int force, int from, int to) { }

    interface Cond {
        boolean holds(int[] facts);
    }

    interface Value {
        int of(int[] facts);
    }

    record Rule(int kind, Cond cond, int does) { }

    /** All that is kept. */
    static final class World {
        List<Girl> girls = new ArrayList<>();
        List<Wind> winds = new ArrayList<>();
        List<Rule> rules = new ArrayList<>();
        List<int[]> reports = new ArrayList<>();
        int month, end = 12, score, z = 1;
        List<Integer> courted = new ArrayList<>();

        World copy() {
            World w = new World();
            for (Girl g : girls) {
                w.girls.add(g.copy());
            }
            w.winds.addAll(winds);
            w.rules.addAll(rules);
            w.reports.addAll(reports);
            w.month = month;
            w.end = end;
            w.score = score;
            w.z = z;
            return w;
        }

        boolean over() {
            return month >= end;
        }

        boolean blows(int w, int m) {
            return w != 6 && winds.get(w).from() <= m && m <= winds.get(w).to();
        }

        int gain(int g, int w, int m) {
            Girl girl = girls.get(g);
            Wind wind = winds.get(w);
            return PlainCoast.gain(girl.kind, turn(girl.house, wind.point()), wind.force(), m);
        }

        int does(int g) {
            Girl girl = girls.get(g);
            int[] facts = {month, girl.faith, girl.dowry, girl.house, g};
            for (Rule r : rules) {
                if (under(girl.kind, r.kind()) && r.cond().holds(facts)) {
                    return r.does();
                }
            }
            return 0;
        }

        int pass(int act) {
            int worth = 0;
            courted.clear();
            List<Integer> used = new ArrayList<>();
            for (int g = 0; g < girls.size(); g++) {
                if (act - 1 == g) {
                    continue;
                }
                Girl girl = girls.get(g);
                if (girl.wind == 6 || !blows(girl.wind, month)) {
                    calm(g);
                }
                if (girl.wind != 6 && blows(girl.wind, month) && !used.contains(girl.wind)) {
                    used.add(girl.wind);
                    courted.add(g);
                    girl.faith = girl.dowry;
                    worth += gain(g, girl.wind, month);
                } else if (girl.wind != 6) {
                    girl.faith = girl.faith - 1;
                    if (girl.faith == 0) {
                        girl.wind = 6;
                        girl.faith = girl.dowry;
                    }
                }
            }
            month++;
            score += worth;
            return worth;
        }

        private void calm(int g) {
            Girl girl = girls.get(g);
            int does = does(g);
            if (does == 2) {
                girl.wind = 6;
                girl.faith = girl.dowry;
            }
            if (does == 1) {
                int best = 6;
                for (int w = winds.size() - 1; w >= 0; w--) {
                    int wind = w;
                    boolean free = girls.stream().noneMatch(other -> other.wind == wind);
                    if (free && blows(w, month) && (best == 6 || gain(g, w, month) >= gain(g, best, month))) {
                        best = w;
                    }
                }
                if (best != 6) {
                    girl.wind = best;
                    girl.faith = girl.dowry;
                }
            }
        }

        int promised() {
            int set = 0;
            for (int g = 0; g < girls.size(); g++) {
                if (girls.get(g).wind != 6) {
                    set += 1 << g;
                }
            }
            return set;
        }

        int lotAct() {
            z = z * 1103515245 + 12345;
            return (z >>> 16) % (girls.size() + 1);
        }

        int rest() {
            World w = copy();
            int worth = 0;
            while (!w.over()) {
                worth += w.pass(0);
            }
            return worth;
        }
    }

    static int turn(int a, int b) {
        int steps = 0;
        while ((a + steps) % 8 != b && (b + steps) % 8 != a) {
            steps++;
        }
        return steps;
    }

    static int gain(int kind, int turn, int force, int month) {
        switch (kind) {
            case 0: return Math.max(0, force - turn);
            case 1: return gain(0, turn, force, month) / 2;
            case 2: return Math.max(0, force - turn / 2);
            case 3: return gain(2, turn, force, month) + 1;
            case 4: return month < 3 ? 0 : gain(0, turn, force, month);
            default: return gain(4, turn, force, month) + (9 - force);
        }
    }

    static final int[] PARENT = {-1, 0, 0, 2, 0, 4};

    static boolean under(int kind, int above) {
        return kind == above || (kind > 0 && under(PARENT[kind], above));
    }

    World now = new World();
    World keptWorld;
    List<Integer> tape = new ArrayList<>();
    List<int[]> rows = new ArrayList<>();
    Object[] sheets = new Object[4];
    Object[] shelves = new Object[4];
    List<Integer> trace = new ArrayList<>();

    static boolean in(long v, long least, long most) {
        return v >= least && v <= most;
    }

    boolean isGirl(int g) {
        return in(g, 0, now.girls.size() - 1);
    }

    boolean isWind(int w) {
        return in(w, 0, now.winds.size() - 1);
    }

    int call(String name, long... a) {
        int x = a.length > 0 ? (int) a[0] : 0;
        int y = a.length > 1 ? (int) a[1] : 0;
        int u = a.length > 2 ? (int) a[2] : 0;
        int v = a.length > 3 ? (int) a[3] : 0;
        switch (name) {
            case "girl": return girl(x, y, u);
            case "girlOf": return girlOf(x, y);
            case "change": return change(x, y, u);
            case "remake": return remake(x, y);
            case "wind": return wind(x, y, u, v);
            case "windOf": return windOf(x, y);
            case "promise": return promise(x, y);
            case "gain": return isGirl(x) && isWind(y) && in(u, 0, 15) ? now.gain(x, y, u) : BAD;
            case "ends": return ends(x);
            case "anew": return anew();
            case "state": return state(x);
            case "feed": return feed(a[0], y);
            case "rules": return rules();
            case "month": return now.over() ? STATE : now.pass(0);
            case "on": return on(x);
            case "courted": return courted(x);
            case "breaks": return breaks(x);
            case "windFor": return windFor(x);
            case "dowryFor": return dowryFor(x);
            case "leave": return leaving(now).size();
            case "first": return leaving(now).isEmpty() ? NONE : leaving(now).get(0);
            case "kept": return isGirl(x) ? kept(x) : BAD;
            case "ring": return isGirl(x) ? ring(x) : BAD;
            case "best": return in(x, 0, 4) ? best(x).worth() : BAD;
            case "ith": return ith(x, y);
            case "ways": return in(x, 0, 4) ? ways(x) : BAD;
            case "bound": return bound(x, y);
            case "bars": return bars(x, y);
            case "game": return in(x, 1, 4) ? game(now, x, true) : BAD;
            case "play": return play(x);
            default: return more(name, x, y, u, v);
        }
    }

    private int more(String name, int x, int y, int u, int v) {
        switch (name) {
            case "report": return report(x, y, u, v);
            case "forget": return forget();
            case "span": return span(x);
            case "liar": return liar();
            case "seed": return seed(x);
            case "lot": return now.over() ? STATE : now.pass(now.lotAct());
            case "often": return often(x, y);
            case "prove": return prove(x);
            case "row": return in(x, 0, rows.size() - 1) && in(y, 0, 2) ? rows.get(x)[y] : -9;
            case "alterRow": return alterRow(x, y, u);
            case "judge": return judge();
            case "sheet": return sheet(x, y, u);
            case "write": return write(x, y, u);
            case "item": return item(x, y, u);
            case "goAll": return goAll(x, y, u);
            case "wouldBe": return wouldBe(x, y, u);
            case "shelf": return shelf(x, y, u);
            case "taken": return taken(x, y);
            case "act": return act(x, y, u);
            case "trace": return in(x, 0, trace.size() - 1) ? trace.get(x) : NONE;
            case "many": return many(x);
            case "keep": keptWorld = now.copy(); return 1;
            case "again": return again();
            default: throw new IllegalStateException(name);
        }
    }

    private int girl(int kind, int house, int dowry) {
        if (!in(kind, 1, 5) || !in(house, 0, 7) || !in(dowry, 1, 9)) {
            return BAD;
        }
        if (now.girls.size() == 6) {
            return FULL;
        }
        Girl g = new Girl();
        g.kind = kind;
        g.house = house;
        g.dowry = dowry;
        g.faith = dowry;
        now.girls.add(g);
        return now.girls.size() - 1;
    }

    private int girlOf(int n, int what) {
        if (!isGirl(n) || !in(what, 0, 5)) {
            return BAD;
        }
        Girl g = now.girls.get(n);
        return new int[] {g.kind, g.house, g.dowry, g.wind, g.faith, now.does(n)}[what];
    }

    private int change(int n, int what, int v) {
        if (!isGirl(n) || !in(what, 1, 2) || !(what == 1 ? in(v, 0, 7) : in(v, 1, 9))) {
            return BAD;
        }
        Girl g = now.girls.get(n);
        int was = what == 1 ? g.house : g.dowry;
        if (what == 1) {
            g.house = v;
        } else {
            g.dowry = v;
        }
        return was;
    }

    private int remake(int n, int kind) {
        if (!isGirl(n) || !in(kind, 1, 5)) {
            return BAD;
        }
        int was = now.girls.get(n).kind;
        now.girls.get(n).kind = kind;
        return was;
    }

    private int wind(int point, int force, int from, int to) {
        if (!in(point, 0, 7) || !in(force, 1, 9) || !in(from, 0, 15) || !in(to, 0, 15) || to < from) {
            return BAD;
        }
        if (now.winds.size() == 6) {
            return FULL;
        }
        now.winds.add(new Wind(point, force, from, to));
        return now.winds.size() - 1;
    }

    private int windOf(int n, int what) {
        if (!isWind(n) || !in(what, 0, 5)) {
            return BAD;
        }
        Wind w = now.winds.get(n);
        int brides = 0;
        for (int g = 0; g < now.girls.size(); g++) {
            brides += now.girls.get(g).wind == n ? 1 << g : 0;
        }
        return new int[] {w.point(), w.force(), w.from(), w.to(), brides, now.blows(n, now.month) ? 1 : 0}[what];
    }

    private static void promise(World world, int n, int w) {
        world.girls.get(n).wind = w;
        world.girls.get(n).faith = world.girls.get(n).dowry;
    }

    private int promise(int n, int w) {
        if (!isGirl(n) || !(w == -1 || isWind(w))) {
            return BAD;
        }
        int was = now.girls.get(n).wind;
        promise(now, n, w == -1 ? 6 : w);
        return was;
    }

    private int ends(int v) {
        if (!in(v, 1, 16)) {
            return BAD;
        }
        if (v < now.month) {
            return STATE;
        }
        int was = now.end;
        now.end = v;
        return was;
    }

    private int anew() {
        int was = now.month;
        now.month = 0;
        now.score = 0;
        now.girls.forEach(g -> g.faith = g.dowry);
        return was;
    }

    private int state(int what) {
        return in(what, 0, 3) ? new int[] {now.month, now.end, now.score, now.over() ? 1 : 0}[what] : BAD;
    }

    private int feed(long eight, int n) {
        if (!in(n, 1, 8)) {
            return BAD;
        }
        if (tape.size() + n > 200) {
            return FULL;
        }
        for (int i = 0; i < n; i++) {
            tape.add((int) (eight & 255));
            eight >>= 8;
        }
        return tape.size();
    }

    private int rules() {
        StringBuilder text = new StringBuilder();
        tape.forEach(b -> text.append((char) (int) b));
        tape.clear();
        PlainText reader = new PlainText(text.toString());
        try {
            now.rules = reader.read();
            return now.rules.size();
        } catch (PlainText.Fault fault) {
            return -100 - fault.place;
        }
    }

    private int on(int n) {
        if (!in(n, 0, 16)) {
            return BAD;
        }
        World w = now.copy();
        int worth = 0;
        for (int i = 0; i < n && !w.over(); i++) {
            worth += w.pass(0);
        }
        return worth;
    }

    private int courted(int g) {
        if (!isGirl(g)) {
            return BAD;
        }
        World w = now.copy();
        int times = 0;
        while (!w.over()) {
            w.pass(0);
            times += w.courted.contains(g) ? 1 : 0;
        }
        return times;
    }

    private int breaks(int g) {
        if (!isGirl(g)) {
            return BAD;
        }
        int had = now.girls.get(g).wind;
        World w = now.copy();
        while (had != 6 && !w.over()) {
            w.pass(0);
            if (w.girls.get(g).wind != had) {
                return w.month - 1;
            }
        }
        return NONE;
    }

    private int windFor(int g) {
        if (!isGirl(g)) {
            return BAD;
        }
        int[] worth = new int[7];
        Arrays.fill(worth, -1);
        for (int w = 0; w <= 6; w++) {
            if (w == 6 || w < now.winds.size()) {
                World world = now.copy();
                promise(world, g, w);
                worth[w] = world.rest();
            }
        }
        return firstOfMost(worth);
    }

    private static int firstOfMost(int[] row) {
        int most = Arrays.stream(row).max().getAsInt();
        int i = 0;
        while (row[i] != most) {
            i++;
        }
        return i;
    }

    private int dowryFor(int g) {
        if (!isGirl(g)) {
            return BAD;
        }
        int[] worth = new int[9];
        for (int d = 1; d <= 9; d++) {
            World world = now.copy();
            world.girls.get(g).dowry = d;
            world.girls.get(g).faith = d;
            worth[d - 1] = world.rest();
        }
        return firstOfMost(worth) + 1;
    }

    /** How much a GIRL LIKES a WIND, as a number. */
    private static int liking(World world, int g, int w) {
        return w == 6 ? -1 : world.gain(g, w, Math.min(15, world.month)) * 10 + 9 - w;
    }

    private static int windLiking(World world, int w, int g) {
        return (9 - turn(world.girls.get(g).house, world.winds.get(w).point())) * 10 + 9 - g;
    }

    private static List<Integer> leaving(World world) {
        List<Integer> pairs = new ArrayList<>();
        for (int g = 0; g < world.girls.size(); g++) {
            for (int w = 0; w < world.winds.size(); w++) {
                boolean leaves = world.girls.get(g).wind != w && liking(world, g, w) > liking(world, g, world.girls.get(g).wind);
                for (int other = 0; other < world.girls.size(); other++) {
                    if (world.girls.get(other).wind == w && windLiking(world, w, other) >= windLiking(world, w, g)) {
                        leaves = false;
                    }
                }
                if (leaves) {
                    pairs.add(10 * g + w);
                }
            }
        }
        return pairs;
    }

    private int kept(int girl) {
        List<int[]> ways = new ArrayList<>();
        World world = now.copy();
        world.girls.forEach(g -> g.wind = 6);
        everyWay(world, 0, 0, ways);
        for (int[] way : ways) {
            boolean best = true;
            for (int[] other : ways) {
                for (int g = 0; g < way.length; g++) {
                    best &= liking(world, g, way[g]) >= liking(world, g, other[g]);
                }
            }
            if (best) {
                return way[girl];
            }
        }
        throw new IllegalStateException("no way is best for all");
    }

    private static void everyWay(World world, int g, int pairs, List<int[]> ways) {
        if (g == world.girls.size()) {
            if (pairs == Math.min(world.girls.size(), world.winds.size()) && leaving(world).isEmpty()) {
                ways.add(world.girls.stream().mapToInt(girl -> girl.wind).toArray());
            }
            return;
        }
        everyWay(world, g + 1, pairs, ways);
        for (int w = 0; w < world.winds.size(); w++) {
            int wind = w;
            if (world.girls.stream().noneMatch(girl -> girl.wind == wind)) {
                world.girls.get(g).wind = w;
                everyWay(world, g + 1, pairs + 1, ways);
                world.girls.get(g).wind = 6;
            }
        }
    }

    private int ring(int g) {
        int least = rings(List.of(g));
        return least > 6 ? NONE : least;
    }

    private int rings(List<Integer> path) {
        int last = path.get(path.size() - 1);
        int least = 99;
        if (path.size() > 1 && envies(last, path.get(0))) {
            least = path.size();
        }
        for (int next = 0; next < now.girls.size(); next++) {
            if (!path.contains(next) && envies(last, next)) {
                List<Integer> longer = new ArrayList<>(path);
                longer.add(next);
                least = Math.min(least, rings(longer));
            }
        }
        return least;
    }

    private boolean envies(int g, int other) {
        int hers = now.girls.get(g).wind;
        int others = now.girls.get(other).wind;
        int m = Math.min(15, now.month);
        return hers != 6 && others != 6 && now.gain(g, others, m) > now.gain(g, hers, m);
    }

    record Plan(int[] acts, int worth, int promised) { }

    /** All PLANS, the ones with the lesser first ACTS first. */
    private List<Plan> plans(int n) {
        int months = Math.min(n, now.end - now.month);
        int choices = now.girls.size() + 1;
        int count = 1;
        for (int i = 0; i < months; i++) {
            count *= choices;
        }
        List<Plan> plans = new ArrayList<>();
        for (int number = 0; number < count; number++) {
            int[] acts = new int[months];
            int left = number;
            for (int i = months - 1; i >= 0; i--) {
                acts[i] = left % choices;
                left /= choices;
            }
            World w = now.copy();
            int worth = 0;
            for (int act : acts) {
                worth += w.pass(act);
            }
            plans.add(new Plan(acts, worth, w.promised()));
        }
        return plans;
    }

    private Plan best(int n) {
        Plan best = null;
        for (Plan plan : plans(n)) {
            if (best == null || plan.worth() > best.worth()) {
                best = plan;
            }
        }
        return best;
    }

    private int ith(int n, int i) {
        if (!in(n, 0, 4) || !in(i, 0, 3)) {
            return BAD;
        }
        Plan best = best(n);
        return i < best.acts().length ? best.acts()[i] : NONE;
    }

    private int ways(int n) {
        int most = best(n).worth();
        return (int) plans(n).stream().filter(p -> p.worth() == most).count();
    }

    private int bound(int n, int set) {
        if (!in(n, 0, 4) || !in(set, 0, (1 << now.girls.size()) - 1)) {
            return BAD;
        }
        return plans(n).stream().filter(p -> (p.promised() & set) == set)
            .mapToInt(p -> (int) Arrays.stream(p.acts()).filter(act -> act != 0).count()).min().orElse(NONE);
    }

    private int bars(int n, int set) {
        if (!in(n, 0, 4) || !in(set, 0, (1 << now.girls.size()) - 1)) {
            return BAD;
        }
        List<Plan> plans = plans(n);
        for (int g = 0; g < 6; g++) {
            int bit = 1 << g;
            if ((set & bit) != 0 && plans.stream().noneMatch(p -> (p.promised() & bit) != 0)) {
                return g;
            }
        }
        return NONE;
    }

    private static int game(World world, int n, boolean first) {
        if (n == 0 || world.over()) {
            return 0;
        }
        int value = first ? Integer.MIN_VALUE : Integer.MAX_VALUE;
        for (int act = 0; act <= world.girls.size(); act++) {
            World next = world.copy();
            int worth = next.pass(act) + game(next, n - 1, !first);
            value = first ? Math.max(value, worth) : Math.min(value, worth);
        }
        return value;
    }

    private int play(int n) {
        if (!in(n, 1, 4)) {
            return BAD;
        }
        if (now.over()) {
            return NONE;
        }
        int value = game(now, n, true);
        for (int act = 0; ; act++) {
            World next = now.copy();
            if (next.pass(act) + game(next, n - 1, false) == value) {
                return act;
            }
        }
    }

    private int report(int kind, int house, int least, int most) {
        if (!in(kind, 1, 5) || !in(house, 0, 7) || !in(least, 0, 99) || !in(most, 0, 99) || most < least) {
            return BAD;
        }
        if (now.reports.size() == 6) {
            return FULL;
        }
        now.reports.add(new int[] {kind, house, least, most});
        return now.reports.size() - 1;
    }

    private int forget() {
        int were = now.reports.size();
        now.reports.clear();
        return were;
    }

    private static List<int[]> fitting(List<int[]> reports) {
        List<int[]> fit = new ArrayList<>();
        for (int point = 0; point < 8; point++) {
            for (int force = 1; force < 10; force++) {
                boolean fits = true;
                for (int[] r : reports) {
                    int gain = gain(r[0], turn(r[1], point), force, 7);
                    fits &= r[2] <= gain && gain <= r[3];
                }
                if (fits) {
                    fit.add(new int[] {point, force});
                }
            }
        }
        return fit;
    }

    private int span(int what) {
        if (!in(what, 0, 2)) {
            return BAD;
        }
        List<int[]> fit = fitting(now.reports);
        if (what == 0) {
            return fit.size();
        }
        return fit.isEmpty() ? NONE : fit.get(0)[what - 1];
    }

    private int liar() {
        if (!fitting(now.reports).isEmpty()) {
            return NONE;
        }
        for (int r = 0; r < now.reports.size(); r++) {
            List<int[]> others = new ArrayList<>(now.reports);
            others.remove(r);
            if (!fitting(others).isEmpty()) {
                return r;
            }
        }
        return NONE;
    }

    private int seed(int v) {
        int was = now.z;
        now.z = v;
        return was;
    }

    private int often(int n, int v) {
        if (!in(n, 1, 40) || !in(v, 0, 999)) {
            return BAD;
        }
        int z = now.z;
        int times = 0;
        for (int i = 0; i < n; i++) {
            World w = now.copy();
            w.z = z;
            int worth = 0;
            while (!w.over()) {
                worth += w.pass(w.lotAct());
            }
            z = w.z;
            times += worth >= v ? 1 : 0;
        }
        return times;
    }

    private int prove(int n) {
        if (!in(n, 0, 4)) {
            return BAD;
        }
        rows.clear();
        World w = now.copy();
        for (int act : best(n).acts()) {
            int worth = w.pass(act);
            rows.add(new int[] {act, worth, w.promised()});
        }
        return rows.size();
    }

    private int alterRow(int k, int what, int v) {
        if (!in(k, 0, rows.size() - 1) || !in(what, 0, 2)) {
            return -9;
        }
        int was = rows.get(k)[what];
        rows.get(k)[what] = v;
        return was;
    }

    private int judge() {
        World w = now.copy();
        for (int k = 0; k < rows.size(); k++) {
            int[] row = rows.get(k);
            if (w.over() || !in(row[0], 0, w.girls.size())) {
                return k + 1;
            }
            int worth = w.pass(row[0]);
            if (worth != row[1] || w.promised() != row[2]) {
                return k + 1;
            }
        }
        return 0;
    }

    private int sheet(int s, int sort, int n) {
        if (!in(s, 0, 3) || !in(sort, -1, 4) || (sort != -1 && n > 40)) {
            return BAD;
        }
        if (sort != -1 && n < 0) {
            return -14;
        }
        switch (sort) {
            case -1: sheets[s] = null; break;
            case 0: sheets[s] = new byte[n]; break;
            case 1: sheets[s] = new short[n]; break;
            case 2: sheets[s] = new int[n]; break;
            case 3: sheets[s] = new long[n]; break;
            default: sheets[s] = new boolean[n]; break;
        }
        return 1;
    }

    private static int sortOf(Object row) {
        return row instanceof byte[] ? 0 : row instanceof short[] ? 1 : row instanceof int[] ? 2 : row instanceof long[] ? 3 : 4;
    }

    private int write(int s, int i, int v) {
        if (!in(s, 0, 3)) {
            return BAD;
        }
        if (sheets[s] == null) {
            return -11;
        }
        if (!in(i, 0, java.lang.reflect.Array.getLength(sheets[s]) - 1)) {
            return -12;
        }
        switch (sortOf(sheets[s])) {
            case 0: ((byte[]) sheets[s])[i] = (byte) v; break;
            case 1: ((short[]) sheets[s])[i] = (short) v; break;
            case 2: ((int[]) sheets[s])[i] = v; break;
            case 3: ((long[]) sheets[s])[i] = v; break;
            default: ((boolean[]) sheets[s])[i] = v != 0; break;
        }
        return 1;
    }

    private int item(int s, int sort, int i) {
        if (!in(s, 0, 3) || !in(sort, 0, 4)) {
            return BAD;
        }
        if (sheets[s] == null) {
            return -11;
        }
        if (sortOf(sheets[s]) != sort) {
            return -13;
        }
        if (!in(i, 0, java.lang.reflect.Array.getLength(sheets[s]) - 1)) {
            return -12;
        }
        switch (sort) {
            case 0: return ((byte[]) sheets[s])[i];
            case 1: return ((short[]) sheets[s])[i];
            case 2: return ((int[]) sheets[s])[i];
            case 3: return (int) ((long[]) sheets[s])[i];
            default: return ((boolean[]) sheets[s])[i] ? 1 : 0;
        }
    }

    private int goAll(int s, int i, int n) {
        if (!in(s, 0, 3) || !in(n, 0, 20)) {
            return BAD;
        }
        if (sheets[s] != null && sortOf(sheets[s]) != 0) {
            return -13;
        }
        if (sheets[s] == null) {
            return -11;
        }
        byte[] row = (byte[]) sheets[s];
        int worth = 0;
        for (long k = i; k < (long) i + n; k++) {
            if (!in(k, 0, row.length - 1)) {
                return -12;
            }
            if (in(row[(int) k], 0, now.girls.size()) && !now.over()) {
                worth += now.pass(row[(int) k]);
            }
        }
        return worth;
    }

    private int wouldBe(int s, int i, int n) {
        if (!in(s, 0, 3) || !in(n, 0, 20)) {
            return BAD;
        }
        if (sheets[s] != null && sortOf(sheets[s]) != 0) {
            return -13;
        }
        if (sheets[s] == null) {
            return -11;
        }
        byte[] row = (byte[]) sheets[s];
        World w = now.copy();
        int worth = 0;
        for (long k = i; k < (long) i + n; k++) {
            if (!in(k, 0, row.length - 1)) {
                return -12;
            }
            if (!in(row[(int) k], 0, w.girls.size()) || w.over()) {
                return STATE;
            }
            worth += w.pass(row[(int) k]);
        }
        return worth;
    }

    private int shelf(int s, int what, int n) {
        if (!in(s, 0, 3) || !in(what, 0, 2) || (what == 0 && !isGirl(n)) || (what == 1 && !in(n, 0, 3))) {
            return BAD;
        }
        shelves[s] = what == 0 ? (Object) Integer.valueOf(n) : what == 1 ? sheets[n] : null;
        return 1;
    }

    private Object held(int s) {
        return shelves[s] instanceof Integer g && !isGirl(g) ? null : shelves[s];
    }

    private int taken(int s, int as) {
        if (!in(s, 0, 3) || !(in(as, 0, 5) || in(as, 10, 14))) {
            return BAD;
        }
        Object thing = held(s);
        if (thing == null) {
            return -11;
        }
        if (thing instanceof Integer g) {
            return as < 6 && under(now.girls.get(g).kind, as) ? g : -13;
        }
        return sortOf(thing) == as - 10 ? java.lang.reflect.Array.getLength(thing) : -13;
    }

    private int act(int s, int act, int x) {
        trace.clear();
        if (!in(s, 0, 3) || !in(act, 0, 3) || !(held(s) instanceof Integer g)) {
            return 0;
        }
        PlainThing thing = new PlainThing(now.girls.get(g).kind, g, now.girls.get(g).dowry, trace);
        try {
            int answer = thing.run(act, x);
            return answer;
        } catch (ArithmeticException parted) {
            return -15;
        }
    }

    private int many(int what) {
        if (!in(what, 0, 7)) {
            return BAD;
        }
        return new int[] {now.girls.size(), now.rules.size(), now.winds.size(), now.reports.size(), rows.size(),
            tape.size(), trace.size(), Integer.bitCount(now.promised())}[what];
    }

    private int again() {
        if (keptWorld == null) {
            return NONE;
        }
        now = keptWorld.copy();
        return now.girls.size();
    }
}
