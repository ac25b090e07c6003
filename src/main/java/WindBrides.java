/** Girls who are promised to winds. What each call promises is told, by numbers, in the project's document. */
public final class WindBrides {

    public static final int BAD = -1, FULL = -2, NONE = -3, STATE = -4;

    private static final int NOTHING = -11, OUTSIDE = -12, OTHER_SORT = -13, BELOW_ZERO = -14, PARTED_BY_ZERO = -15;
    private static final int NO_ROW = -9;

    private static final int MOST = 6;
    private static final int NO_WIND = 6;
    private static final int POINTS = 8;
    private static final int STRONGEST = 9;
    private static final int RICHEST = 9;
    private static final int LAST_MONTH = 15;
    private static final int LATEST_END = 16;
    private static final int FIRST_LATE_MONTH = 3;
    private static final int HIGHEST_REPORT = 99;

    private static final int GIRL = 0, SHARED = 1, BRED = 2, TWICE = 3, LATE = 4, CALM = 5;
    private static final int WAITS = 0, TURNS = 1, LEAVES = 2;

    /** For each KIND the set of itself and those above it. */
    private static final int[] LINEAGE = {
        1 << GIRL,
        1 << GIRL | 1 << SHARED,
        1 << GIRL | 1 << BRED,
        1 << GIRL | 1 << BRED | 1 << TWICE,
        1 << GIRL | 1 << LATE,
        1 << GIRL | 1 << LATE | 1 << CALM
    };

    private static final int LONGEST_PLAN = 4;
    private static final int MOST_LOTS = 40;
    private static final int HIGHEST_ASKED = 999;

    private static final int SHEETS = 4, SHEET_ITEMS = 40, MISSING = -1, MOST_TAKEN = 20;
    private static final int BYTES = 0, SHORTS = 1, BOOLEANS = 4;
    private static final int SHELVES = 4, A_GIRL = 0, A_ROW = 1, EMPTY = 2;
    private static final int AS_ROW = 10;
    private static final int TRACED = 30;

    private final Coast coast = new Coast();
    private final Coast keptCoast = new Coast();
    private boolean hasKept;
    private final Course trial = new Course();
    private final Tape tape = new Tape();
    /** A text may turn out faulty when half of it is read, so it is read aside from THE RULES. */
    private final Book draft = new Book();
    private final Plans plans = new Plans();

    private final int[] sheetSort = {MISSING, MISSING, MISSING, MISSING};
    private final int[] sheetSize = new int[SHEETS];
    private final int[] sheetItems = new int[SHEETS * SHEET_ITEMS];
    private final int[] shelfHolds = {EMPTY, EMPTY, EMPTY, EMPTY};
    /** A GIRL's number, or how many items a row has. */
    private final int[] shelfNumber = new int[SHELVES];
    private final int[] shelfSort = new int[SHELVES];
    private final int[] traced = new int[TRACED];
    /** The thing of the latest act(), which knows how much of the trace is its own; null: there is no TRACE. */
    private Girl actor;

    public WindBrides() {
    }

    private static boolean within(int v, int least, int most) {
        return v >= least && v <= most;
    }

    private static boolean isUnder(int kind, int above) {
        return (LINEAGE[kind] >> above & 1) != 0;
    }

    private static int turnBetween(int point, int house) {
        int far = point > house ? point - house : house - point;
        return far > POINTS - far ? POINTS - far : far;
    }

    /** What is built upon another KIND's GAIN starts from that GAIN, which is never below 0. */
    private static int gainOf(int kind, int force, int turn, int month) {
        int plain = force > turn ? force - turn : 0;
        int bred = force > turn / 2 ? force - turn / 2 : 0;
        int late = month < FIRST_LATE_MONTH ? 0 : plain;
        switch (kind) {
            case SHARED: return plain / 2;
            case BRED: return bred;
            case TWICE: return bred + 1;
            case LATE: return late;
            case CALM: return late + STRONGEST - force;
            default: return plain;
        }
    }

    // ---- girls, winds

    public int girl(int kind, int house, int dowry) {
        if (!within(kind, SHARED, CALM) || !within(house, 0, POINTS - 1) || !within(dowry, 1, RICHEST)) {
            return BAD;
        }
        if (coast.girls == MOST) {
            return FULL;
        }
        return coast.addGirl(kind, house, dowry);
    }

    public int girlOf(int g, int what) {
        if (!coast.hasGirl(g)) {
            return BAD;
        }
        switch (what) {
            case 0: return coast.kind[g];
            case 1: return coast.house[g];
            case 2: return coast.dowry[g];
            case 3: return coast.now.promised[g];
            case 4: return coast.now.faith[g];
            case 5: return coast.now.doesInCalm(coast, g);
            default: return BAD;
        }
    }

    public int change(int g, int what, int v) {
        if (!coast.hasGirl(g)) {
            return BAD;
        }
        if (what == 1 && within(v, 0, POINTS - 1)) {
            int was = coast.house[g];
            coast.house[g] = v;
            return was;
        }
        if (what == 2 && within(v, 1, RICHEST)) {
            int was = coast.dowry[g];
            coast.dowry[g] = v;
            return was;
        }
        return BAD;
    }

    public int remake(int g, int kind) {
        if (!coast.hasGirl(g) || !within(kind, SHARED, CALM)) {
            return BAD;
        }
        int was = coast.kind[g];
        coast.kind[g] = kind;
        return was;
    }

    public int wind(int point, int force, int from, int to) {
        if (!within(point, 0, POINTS - 1) || !within(force, 1, STRONGEST)
                || !within(from, 0, LAST_MONTH) || !within(to, from, LAST_MONTH)) {
            return BAD;
        }
        if (coast.winds == MOST) {
            return FULL;
        }
        return coast.addWind(point, force, from, to);
    }

    public int windOf(int w, int what) {
        if (!coast.hasWind(w)) {
            return BAD;
        }
        switch (what) {
            case 0: return coast.point[w];
            case 1: return coast.force[w];
            case 2: return coast.from[w];
            case 3: return coast.to[w];
            case 4: return coast.now.bridesOf(coast, w);
            case 5: return coast.blows(w, coast.now.month) ? 1 : 0;
            default: return BAD;
        }
    }

    public int promise(int g, int w) {
        if (!coast.hasGirl(g) || (w != -1 && !coast.hasWind(w))) {
            return BAD;
        }
        int was = coast.now.promised[g];
        coast.now.promiseTo(coast, g, w == -1 ? NO_WIND : w);
        return was;
    }

    public int gain(int g, int w, int month) {
        if (!coast.hasGirl(g) || !coast.hasWind(w) || !within(month, 0, LAST_MONTH)) {
            return BAD;
        }
        return coast.gainBy(g, w, month);
    }

    public int ends(int v) {
        if (!within(v, 1, LATEST_END)) {
            return BAD;
        }
        if (v < coast.now.month) {
            return STATE;
        }
        int was = coast.end;
        coast.end = v;
        return was;
    }

    public int anew() {
        int was = coast.now.month;
        coast.now.month = 0;
        coast.score = 0;
        for (int g = 0; g < coast.girls; g++) {
            coast.now.faith[g] = coast.dowry[g];
        }
        return was;
    }

    public int state(int what) {
        switch (what) {
            case 0: return coast.now.month;
            case 1: return coast.end;
            case 2: return coast.score;
            case 3: return coast.isOver() ? 1 : 0;
            default: return BAD;
        }
    }

    // ---- the rules

    public int feed(long eight, int n) {
        if (!within(n, 1, 8)) {
            return BAD;
        }
        if (!tape.hasRoomFor(n)) {
            return FULL;
        }
        return tape.takes(eight, n);
    }

    public int rules() {
        int answer = tape.readInto(draft);
        if (answer >= 0) {
            coast.book.copyFrom(draft);
        }
        return answer;
    }

    // ---- months

    public int month() {
        return coast.isOver() ? STATE : passMonth(0);
    }

    private int passMonth(int act) {
        int worth = coast.now.passes(coast, act);
        coast.score += worth;
        return worth;
    }

    public int on(int n) {
        if (!within(n, 0, LATEST_END)) {
            return BAD;
        }
        trial.copyFrom(coast.now);
        int worth = 0;
        for (int i = 0; i < n && trial.month < coast.end; i++) {
            worth += trial.passes(coast, 0);
        }
        return worth;
    }

    public int courted(int g) {
        if (!coast.hasGirl(g)) {
            return BAD;
        }
        trial.copyFrom(coast.now);
        int times = 0;
        for (int month = trial.month; month < coast.end; month++) {
            trial.passes(coast, 0);
            times += trial.courtedSet >> g & 1;
        }
        return times;
    }

    public int breaks(int g) {
        if (!coast.hasGirl(g)) {
            return BAD;
        }
        int wind = coast.now.promised[g];
        if (wind == NO_WIND) {
            return NONE;
        }
        trial.copyFrom(coast.now);
        for (int month = trial.month; month < coast.end; month++) {
            trial.passes(coast, 0);
            if (trial.promised[g] != wind) {
                return month;
            }
        }
        return NONE;
    }

    /** What THE REST is WORTH from how the trial is. */
    private int trialRest() {
        int worth = 0;
        for (int month = trial.month; month < coast.end; month++) {
            worth += trial.passes(coast, 0);
        }
        return worth;
    }

    public int windFor(int g) {
        if (!coast.hasGirl(g)) {
            return BAD;
        }
        int best = NO_WIND;
        int most = -1;
        for (int i = 0; i <= coast.winds; i++) {
            int wind = i < coast.winds ? i : NO_WIND;
            trial.copyFrom(coast.now);
            trial.promiseTo(coast, g, wind);
            int worth = trialRest();
            if (worth > most) {
                most = worth;
                best = wind;
            }
        }
        return best;
    }

    public int dowryFor(int g) {
        if (!coast.hasGirl(g)) {
            return BAD;
        }
        int was = coast.dowry[g];
        int best = 1;
        int most = -1;
        for (int dowry = 1; dowry <= RICHEST; dowry++) {
            coast.dowry[g] = dowry;
            trial.copyFrom(coast.now);
            trial.faith[g] = dowry;
            int worth = trialRest();
            if (worth > most) {
                most = worth;
                best = dowry;
            }
        }
        coast.dowry[g] = was;
        return best;
    }

    // ---- promises

    public int leave() {
        int pairs = 0;
        for (int g = 0; g < coast.girls; g++) {
            for (int w = 0; w < coast.winds; w++) {
                pairs += coast.pairLeaves(g, w) ? 1 : 0;
            }
        }
        return pairs;
    }

    public int first() {
        for (int g = 0; g < coast.girls; g++) {
            for (int w = 0; w < coast.winds; w++) {
                if (coast.pairLeaves(g, w)) {
                    return 10 * g + w;
                }
            }
        }
        return NONE;
    }

    public int kept(int g) {
        return coast.hasGirl(g) ? coast.keptWind(g) : BAD;
    }

    public int ring(int g) {
        return coast.hasGirl(g) ? coast.ringOf(g) : BAD;
    }

    // ---- plans

    private static boolean isPlanLength(int n) {
        return within(n, 0, LONGEST_PLAN);
    }

    private boolean isSetOfGirls(int set) {
        return set >> coast.girls == 0;
    }

    public int best(int n) {
        if (!isPlanLength(n)) {
            return BAD;
        }
        plans.search(coast, n, 0);
        return plans.most;
    }

    public int ith(int n, int i) {
        if (!isPlanLength(n) || !within(i, 0, LONGEST_PLAN - 1)) {
            return BAD;
        }
        plans.search(coast, n, 0);
        return i < plans.months ? plans.bestActs[i] : NONE;
    }

    public int ways(int n) {
        if (!isPlanLength(n)) {
            return BAD;
        }
        plans.search(coast, n, 0);
        return plans.bestOnes;
    }

    public int bound(int n, int set) {
        if (!isPlanLength(n) || !isSetOfGirls(set)) {
            return BAD;
        }
        plans.search(coast, n, set);
        return plans.fewest <= LONGEST_PLAN ? plans.fewest : NONE;
    }

    public int bars(int n, int set) {
        if (!isPlanLength(n) || !isSetOfGirls(set)) {
            return BAD;
        }
        plans.search(coast, n, set);
        int barred = set & ~plans.everPromised;
        return barred == 0 ? NONE : Integer.numberOfTrailingZeros(barred);
    }

    // ---- a game, strange winds, lots

    public int game(int n) {
        if (!within(n, 1, LONGEST_PLAN)) {
            return BAD;
        }
        return plans.gameFrom(coast, n);
    }

    public int play(int n) {
        if (!within(n, 1, LONGEST_PLAN)) {
            return BAD;
        }
        if (coast.isOver()) {
            return NONE;
        }
        plans.gameFrom(coast, n);
        return plans.opening;
    }

    public int report(int kind, int house, int least, int most) {
        if (!within(kind, SHARED, CALM) || !within(house, 0, POINTS - 1)
                || !within(least, 0, HIGHEST_REPORT) || !within(most, least, HIGHEST_REPORT)) {
            return BAD;
        }
        if (coast.reports == MOST) {
            return FULL;
        }
        return coast.addReport(kind, house, least, most);
    }

    public int forget() {
        int were = coast.reports;
        coast.reports = 0;
        return were;
    }

    public int span(int what) {
        if (!within(what, 0, 2)) {
            return BAD;
        }
        if (what == 0) {
            return coast.fittingWinds(-1);
        }
        for (int point = 0; point < POINTS; point++) {
            for (int force = 1; force <= STRONGEST; force++) {
                if (coast.fits(point, force, -1)) {
                    return what == 1 ? point : force;
                }
            }
        }
        return NONE;
    }

    public int liar() {
        if (coast.fittingWinds(-1) > 0) {
            return NONE;
        }
        for (int r = 0; r < coast.reports; r++) {
            if (coast.fittingWinds(r) > 0) {
                return r;
            }
        }
        return NONE;
    }

    public int seed(int v) {
        int was = coast.chance;
        coast.chance = v;
        return was;
    }

    public int lot() {
        return coast.isOver() ? STATE : passMonth(coast.drawAct());
    }

    public int often(int n, int v) {
        if (!within(n, 1, MOST_LOTS) || !within(v, 0, HIGHEST_ASKED)) {
            return BAD;
        }
        int chanceNow = coast.chance;
        int times = 0;
        for (int i = 0; i < n; i++) {
            trial.copyFrom(coast.now);
            int worth = 0;
            for (int month = trial.month; month < coast.end; month++) {
                worth += trial.passes(coast, coast.drawAct());
            }
            times += worth >= v ? 1 : 0;
        }
        coast.chance = chanceNow;
        return times;
    }

    // ---- rows

    public int prove(int n) {
        if (!isPlanLength(n)) {
            return BAD;
        }
        plans.search(coast, n, 0);
        return plans.writeRows();
    }

    public int row(int k, int what) {
        return plans.hasCell(k, what) ? plans.rows[3 * k + what] : NO_ROW;
    }

    public int alterRow(int k, int what, int v) {
        if (!plans.hasCell(k, what)) {
            return NO_ROW;
        }
        int was = plans.rows[3 * k + what];
        plans.rows[3 * k + what] = v;
        return was;
    }

    public int judge() {
        return plans.firstWrongRow(coast);
    }

    // ---- the host

    private static boolean isSheet(int sheet) {
        return within(sheet, 0, SHEETS - 1);
    }

    private static boolean isShelf(int shelf) {
        return within(shelf, 0, SHELVES - 1);
    }

    public int sheet(int sheet, int sort, int n) {
        if (!isSheet(sheet) || !within(sort, MISSING, BOOLEANS)) {
            return BAD;
        }
        int size = sort == MISSING ? 0 : n;
        if (size > SHEET_ITEMS) {
            return BAD;
        }
        if (size < 0) {
            return BELOW_ZERO;
        }
        sheetSort[sheet] = sort;
        sheetSize[sheet] = size;
        for (int i = 0; i < size; i++) {
            sheetItems[sheet * SHEET_ITEMS + i] = 0;
        }
        return 1;
    }

    /** A number that was written is never wider than an int, so ints hold the items of longs too. */
    private static int narrowed(int sort, int v) {
        switch (sort) {
            case BYTES: return (byte) v;
            case SHORTS: return (short) v;
            case BOOLEANS: return v != 0 ? 1 : 0;
            default: return v;
        }
    }

    private boolean hasItem(int sheet, int i) {
        return i >= 0 && i < sheetSize[sheet];
    }

    public int write(int sheet, int i, int v) {
        if (!isSheet(sheet)) {
            return BAD;
        }
        if (sheetSort[sheet] == MISSING) {
            return NOTHING;
        }
        if (!hasItem(sheet, i)) {
            return OUTSIDE;
        }
        sheetItems[sheet * SHEET_ITEMS + i] = narrowed(sheetSort[sheet], v);
        return 1;
    }

    /** What a row of a SHEET refuses if it is taken for a sort: 0 nothing. A missing one is of every sort. */
    private int refusalAs(int sheet, int sort) {
        if (sheetSort[sheet] == MISSING) {
            return NOTHING;
        }
        return sheetSort[sheet] == sort ? 0 : OTHER_SORT;
    }

    public int item(int sheet, int sort, int i) {
        if (!isSheet(sheet) || !within(sort, BYTES, BOOLEANS)) {
            return BAD;
        }
        int refusal = refusalAs(sheet, sort);
        if (refusal != 0) {
            return refusal;
        }
        return hasItem(sheet, i) ? sheetItems[sheet * SHEET_ITEMS + i] : OUTSIDE;
    }

    public int goAll(int sheet, int i, int n) {
        if (!isSheet(sheet) || !within(n, 0, MOST_TAKEN)) {
            return BAD;
        }
        int refusal = refusalAs(sheet, BYTES);
        if (refusal != 0) {
            return refusal;
        }
        int worth = 0;
        for (int k = 0; k < n; k++) {
            if (!hasItem(sheet, i + k)) {
                return OUTSIDE;
            }
            int act = sheetItems[sheet * SHEET_ITEMS + i + k];
            if (coast.isAct(act) && !coast.isOver()) {
                worth += passMonth(act);
            }
        }
        return worth;
    }

    public int wouldBe(int sheet, int i, int n) {
        if (!isSheet(sheet) || !within(n, 0, MOST_TAKEN)) {
            return BAD;
        }
        int refusal = refusalAs(sheet, BYTES);
        if (refusal != 0) {
            return refusal;
        }
        trial.copyFrom(coast.now);
        int worth = 0;
        for (int k = 0; k < n; k++) {
            if (!hasItem(sheet, i + k)) {
                return OUTSIDE;
            }
            int act = sheetItems[sheet * SHEET_ITEMS + i + k];
            if (!coast.isAct(act) || trial.month >= coast.end) {
                return STATE;
            }
            worth += trial.passes(coast, act);
        }
        return worth;
    }

    public int shelf(int shelf, int what, int n) {
        if (!isShelf(shelf) || !within(what, A_GIRL, EMPTY)
                || (what == A_GIRL && !coast.hasGirl(n)) || (what == A_ROW && !isSheet(n))) {
            return BAD;
        }
        shelfHolds[shelf] = what;
        if (what == A_GIRL) {
            shelfNumber[shelf] = n;
        }
        if (what == A_ROW) {
            putRow(shelf, n);
        }
        return 1;
    }

    /** The SHELF goes on holding this row when the SHEET becomes another one. */
    private void putRow(int shelf, int sheet) {
        if (sheetSort[sheet] == MISSING) {
            shelfHolds[shelf] = EMPTY;
        } else {
            shelfSort[shelf] = sheetSort[sheet];
            shelfNumber[shelf] = sheetSize[sheet];
        }
    }

    /** again() may have taken the GIRL away whose number is held. */
    private int heldOn(int shelf) {
        boolean gone = shelfHolds[shelf] == A_GIRL && !coast.hasGirl(shelfNumber[shelf]);
        return gone ? EMPTY : shelfHolds[shelf];
    }

    public int taken(int shelf, int as) {
        boolean asGirl = within(as, GIRL, CALM);
        if (!isShelf(shelf) || !(asGirl || within(as, AS_ROW, AS_ROW + BOOLEANS))) {
            return BAD;
        }
        int holds = heldOn(shelf);
        if (holds == EMPTY) {
            return NOTHING;
        }
        boolean fitting = holds == A_GIRL
            ? asGirl && isUnder(coast.kind[shelfNumber[shelf]], as)
            : shelfSort[shelf] == as - AS_ROW;
        return fitting ? shelfNumber[shelf] : OTHER_SORT;
    }

    public int act(int shelf, int act, int x) {
        actor = null;
        if (!isShelf(shelf) || !within(act, 0, 3) || heldOn(shelf) != A_GIRL) {
            return 0;
        }
        Girl thing = thingOf(shelfNumber[shelf]);
        actor = thing;
        int answer;
        switch (act) {
            case 0: answer = thing.sails(x); break;
            case 1: answer = thing.calls(x); break;
            case 2: answer = thing.shares(x); break;
            default: answer = thing.weds(x); break;
        }
        return thing.parted ? PARTED_BY_ZERO : answer;
    }

    private Girl thingOf(int g) {
        int dowry = coast.dowry[g];
        switch (coast.kind[g]) {
            case SHARED: return new Shared(g, dowry, traced);
            case BRED: return new Bred(g, dowry, traced);
            case TWICE: return new Twice(g, dowry, traced);
            case LATE: return new Late(g, dowry, traced);
            case CALM: return new Calm(g, dowry, traced);
            default: return new Girl(g, dowry, traced);
        }
    }

    public int trace(int i) {
        return actor != null && i >= 0 && i < actor.begun ? traced[i] : NONE;
    }

    public int many(int what) {
        switch (what) {
            case 0: return coast.girls;
            case 1: return coast.book.count;
            case 2: return coast.winds;
            case 3: return coast.reports;
            case 4: return plans.rowCount;
            case 5: return tape.length;
            case 6: return actor == null ? 0 : actor.begun;
            case 7: return Integer.bitCount(coast.now.promisedSet(coast));
            default: return BAD;
        }
    }

    // ---- kept

    public int keep() {
        keptCoast.copyFrom(coast);
        hasKept = true;
        return 1;
    }

    public int again() {
        if (!hasKept) {
            return NONE;
        }
        coast.copyFrom(keptCoast);
        return coast.girls;
    }

    /** How far it has come. Plans and trials go on from copies of it, so it holds only what MONTHS change. */
    private static final class Course {
        int month;
        final int[] promised = new int[MOST];
        final int[] faith = new int[MOST];
        /** The GIRLS who were courted in the latest MONTH, as a set. */
        int courtedSet;
        private final int[] facts = new int[Tape.FACTS];

        void copyFrom(Course other) {
            month = other.month;
            courtedSet = other.courtedSet;
            System.arraycopy(other.promised, 0, promised, 0, MOST);
            System.arraycopy(other.faith, 0, faith, 0, MOST);
        }

        void promiseTo(Coast coast, int g, int wind) {
            promised[g] = wind;
            faith[g] = coast.dowry[g];
        }

        int promisedSet(Coast coast) {
            int set = 0;
            for (int g = 0; g < coast.girls; g++) {
                set |= promised[g] == NO_WIND ? 0 : 1 << g;
            }
            return set;
        }

        int bridesOf(Coast coast, int wind) {
            int set = 0;
            for (int g = 0; g < coast.girls; g++) {
                set |= promised[g] == wind ? 1 << g : 0;
            }
            return set;
        }

        private int windsWithBrides(Coast coast) {
            int set = 0;
            for (int g = 0; g < coast.girls; g++) {
                set |= 1 << promised[g];
            }
            return set;
        }

        int doesInCalm(Coast coast, int g) {
            facts[0] = month;
            facts[1] = faith[g];
            facts[2] = coast.dowry[g];
            facts[3] = coast.house[g];
            facts[4] = g;
            return coast.book.tells(coast.kind[g], facts);
        }

        /** A MONTH goes by, ahead of it an ACT: what it is WORTH. */
        int passes(Coast coast, int act) {
            int worth = 0;
            int windsUsed = 0;
            courtedSet = 0;
            for (int g = 0; g < coast.girls; g++) {
                if (g + 1 == act) {
                    continue;
                }
                if (!coast.blows(promised[g], month)) {
                    meetsCalm(coast, g, doesInCalm(coast, g));
                }
                int wind = promised[g];
                if (coast.blows(wind, month) && (windsUsed >> wind & 1) == 0) {
                    windsUsed |= 1 << wind;
                    courtedSet |= 1 << g;
                    faith[g] = coast.dowry[g];
                    worth += coast.gainBy(g, wind, month);
                } else if (wind != NO_WIND) {
                    wearsOut(coast, g);
                }
            }
            month++;
            return worth;
        }

        private void wearsOut(Coast coast, int g) {
            faith[g]--;
            if (faith[g] <= 0) {
                promiseTo(coast, g, NO_WIND);
            }
        }

        private void meetsCalm(Coast coast, int g, int does) {
            if (does == LEAVES) {
                promiseTo(coast, g, NO_WIND);
            } else if (does == TURNS) {
                int wind = freeWindFor(coast, g);
                if (wind != NO_WIND) {
                    promiseTo(coast, g, wind);
                }
            }
        }

        private int freeWindFor(Coast coast, int g) {
            int best = NO_WIND;
            int most = -1;
            int promisedTo = windsWithBrides(coast);
            for (int w = 0; w < coast.winds; w++) {
                if (coast.blows(w, month) && (promisedTo >> w & 1) == 0) {
                    int gain = coast.gainBy(g, w, month);
                    if (gain > most) {
                        most = gain;
                        best = w;
                    }
                }
            }
            return best;
        }
    }

    /** All that keep() keeps, and what is asked of GIRLS, WINDS and REPORTS as they stand. */
    private static final class Coast {
        int girls;
        final int[] kind = new int[MOST];
        final int[] house = new int[MOST];
        final int[] dowry = new int[MOST];
        int winds;
        final int[] point = new int[MOST];
        final int[] force = new int[MOST];
        final int[] from = new int[MOST];
        final int[] to = new int[MOST];
        int end = 12;
        int score;
        int chance = 1;
        final Course now = new Course();
        final Book book = new Book();
        int reports;
        /** Of each REPORT its KIND, HOUSE, LEAST, MOST. */
        private final int[] reported = new int[4 * MOST];
        private final int[] choice = new int[MOST];

        void copyFrom(Coast other) {
            girls = other.girls;
            System.arraycopy(other.kind, 0, kind, 0, MOST);
            System.arraycopy(other.house, 0, house, 0, MOST);
            System.arraycopy(other.dowry, 0, dowry, 0, MOST);
            winds = other.winds;
            System.arraycopy(other.point, 0, point, 0, MOST);
            System.arraycopy(other.force, 0, force, 0, MOST);
            System.arraycopy(other.from, 0, from, 0, MOST);
            System.arraycopy(other.to, 0, to, 0, MOST);
            end = other.end;
            score = other.score;
            chance = other.chance;
            now.copyFrom(other.now);
            book.copyFrom(other.book);
            reports = other.reports;
            System.arraycopy(other.reported, 0, reported, 0, 4 * MOST);
        }

        boolean hasGirl(int g) {
            return g >= 0 && g < girls;
        }

        boolean hasWind(int w) {
            return w >= 0 && w < winds;
        }

        boolean isOver() {
            return now.month >= end;
        }

        boolean isAct(int act) {
            return act >= 0 && act <= girls;
        }

        int addGirl(int herKind, int herHouse, int herDowry) {
            int g = girls;
            kind[g] = herKind;
            house[g] = herHouse;
            dowry[g] = herDowry;
            now.promiseTo(this, g, NO_WIND);
            girls++;
            return g;
        }

        int addWind(int itsPoint, int itsForce, int itsFrom, int itsTo) {
            int w = winds;
            point[w] = itsPoint;
            force[w] = itsForce;
            from[w] = itsFrom;
            to[w] = itsTo;
            winds++;
            return w;
        }

        /** No WIND at all never BLOWS. */
        boolean blows(int w, int month) {
            return w < winds && from[w] <= month && month <= to[w];
        }

        int gainBy(int g, int w, int month) {
            return gainOf(kind[g], force[w], turnBetween(point[w], house[g]), month);
        }

        int drawAct() {
            chance = chance * 1103515245 + 12345;
            return (chance >>> 16) % (girls + 1);
        }

        private int heldMonth() {
            return now.month < LAST_MONTH ? now.month : LAST_MONTH;
        }

        /** Whether a GIRL LIKES a WIND better than what may be none. */
        private boolean girlLikes(int g, int wind, int other) {
            if (other == NO_WIND) {
                return true;
            }
            int month = heldMonth();
            int gain = gainBy(g, wind, month);
            int otherGain = gainBy(g, other, month);
            return gain > otherGain || (gain == otherGain && wind < other);
        }

        private boolean windLikes(int w, int g, int other) {
            int turn = turnBetween(point[w], house[g]);
            int otherTurn = turnBetween(point[w], house[other]);
            return turn < otherTurn || (turn == otherTurn && g < other);
        }

        boolean pairLeaves(int g, int w) {
            if (now.promised[g] == w || !girlLikes(g, w, now.promised[g])) {
                return false;
            }
            for (int other = 0; other < girls; other++) {
                if (now.promised[other] == w && !windLikes(w, g, other)) {
                    return false;
                }
            }
            return true;
        }

        /** Each GIRL asks the WIND she LIKES best; of two who ask the same one, the one it LIKES less goes on to her next. */
        int keptWind(int girl) {
            for (int g = 0; g < girls; g++) {
                choice[g] = nextLiked(g, NO_WIND);
            }
            for (int refusals = 0; refusals <= MOST * MOST; refusals++) {
                int refused = refusedGirl();
                if (refused < 0) {
                    break;
                }
                choice[refused] = nextLiked(refused, choice[refused]);
            }
            return choice[girl];
        }

        /** The WIND that she LIKES best of those that she LIKES less than one (of all, if that is none). */
        private int nextLiked(int g, int than) {
            int best = NO_WIND;
            for (int w = 0; w < winds; w++) {
                boolean less = than == NO_WIND || (w != than && girlLikes(g, than, w));
                if (less && girlLikes(g, w, best)) {
                    best = w;
                }
            }
            return best;
        }

        private int refusedGirl() {
            for (int g = 0; g < girls; g++) {
                for (int other = g + 1; other < girls; other++) {
                    if (choice[g] != NO_WIND && choice[g] == choice[other]) {
                        return windLikes(choice[g], g, other) ? other : g;
                    }
                }
            }
            return -1;
        }

        /** GIRLS whose WINDS one would GAIN more by than by hers, as a set. */
        private int envied(int g) {
            int set = 0;
            int month = heldMonth();
            if (now.promised[g] == NO_WIND) {
                return 0;
            }
            int gain = gainBy(g, now.promised[g], month);
            for (int other = 0; other < girls; other++) {
                int wind = now.promised[other];
                if (wind != NO_WIND && gainBy(g, wind, month) > gain) {
                    set |= 1 << other;
                }
            }
            return set;
        }

        int ringOf(int girl) {
            int latest = 1 << girl;
            for (int size = 1; size <= girls; size++) {
                int next = 0;
                for (int g = 0; g < girls; g++) {
                    next |= (latest >> g & 1) != 0 ? envied(g) : 0;
                }
                if ((next >> girl & 1) != 0) {
                    return size;
                }
                latest = next;
            }
            return NONE;
        }

        int addReport(int herKind, int herHouse, int least, int most) {
            int r = reports;
            reported[4 * r] = herKind;
            reported[4 * r + 1] = herHouse;
            reported[4 * r + 2] = least;
            reported[4 * r + 3] = most;
            reports++;
            return r;
        }

        /** Whether a STRANGE WIND FITS all REPORTS, but for one that is left out (-1: none is). */
        boolean fits(int itsPoint, int itsForce, int leftOut) {
            for (int r = 0; r < reports; r++) {
                int turn = turnBetween(itsPoint, reported[4 * r + 1]);
                int gain = gainOf(reported[4 * r], itsForce, turn, FIRST_LATE_MONTH);
                if (r != leftOut && (gain < reported[4 * r + 2] || gain > reported[4 * r + 3])) {
                    return false;
                }
            }
            return true;
        }

        int fittingWinds(int leftOut) {
            int fitting = 0;
            for (int itsPoint = 0; itsPoint < POINTS; itsPoint++) {
                for (int itsForce = 1; itsForce <= STRONGEST; itsForce++) {
                    fitting += fits(itsPoint, itsForce, leftOut) ? 1 : 0;
                }
            }
            return fitting;
        }
    }

    /** THE RULES, each with its condition written behind its parts, so that it needs no tree. */
    private static final class Book {
        static final int MOST_RULES = 8;

        int count;
        private final int[] kinds = new int[MOST_RULES];
        private final int[] deeds = new int[MOST_RULES];
        /** Where the code of each RULE begins; the next one's beginning is its end. */
        private final int[] begins = new int[MOST_RULES + 1];
        private final int[] code = new int[Tape.ROOM];
        private int size;

        void copyFrom(Book other) {
            count = other.count;
            size = other.size;
            System.arraycopy(other.kinds, 0, kinds, 0, MOST_RULES);
            System.arraycopy(other.deeds, 0, deeds, 0, MOST_RULES);
            System.arraycopy(other.begins, 0, begins, 0, MOST_RULES + 1);
            System.arraycopy(other.code, 0, code, 0, other.size);
        }

        void clear() {
            count = 0;
            size = 0;
        }

        /** Each piece of code stands for a byte of THE TAPE at least, so there is always room. */
        void writes(int piece) {
            if (size < code.length) {
                code[size] = piece;
                size++;
            }
        }

        /** The condition was written ahead of it. */
        void addRule(int kind, int deed) {
            if (count < MOST_RULES) {
                kinds[count] = kind;
                deeds[count] = deed;
                count++;
                begins[count] = size;
            }
        }

        int tells(int kind, int[] facts) {
            for (int r = 0; r < count; r++) {
                if (isUnder(kind, kinds[r]) && holds(r, facts)) {
                    return deeds[r];
                }
            }
            return WAITS;
        }

        /** The truths that wait are the bits of one number: three "(" leave fewer than ten of them. */
        private boolean holds(int r, int[] facts) {
            int truths = 1;
            for (int i = begins[r]; i < begins[r + 1]; i++) {
                switch (code[i]) {
                    case Tape.NOT:
                        truths ^= 1;
                        break;
                    case Tape.AND:
                        truths = (truths & 1) != 0 ? truths >> 1 : truths >> 1 & ~1;
                        break;
                    case Tape.OR:
                        truths = (truths & 1) != 0 ? truths >> 1 | 1 : truths >> 1;
                        break;
                    default:
                        truths = truths << 1 | (compares(i, facts) ? 1 : 0);
                        i += 2;
                        break;
                }
            }
            return (truths & 1) != 0;
        }

        private boolean compares(int i, int[] facts) {
            if (i + 2 >= code.length) {
                return false;
            }
            int left = code[i + 1] >= Tape.NUMBERS ? code[i + 1] - Tape.NUMBERS : facts[code[i + 1] - Tape.FIRST_FACT];
            int right = code[i + 2] >= Tape.NUMBERS ? code[i + 2] - Tape.NUMBERS : facts[code[i + 2] - Tape.FIRST_FACT];
            switch (code[i]) {
                case Tape.LESS: return left < right;
                case Tape.EQUAL: return left == right;
                default: return left > right;
            }
        }
    }

    /** THE TAPE, and how its bytes are read as a TEXT. */
    private static final class Tape {
        static final int ROOM = 200;

        /** Each word takes up seven places: a word's number is its place parted by seven. KINDS come first, by their numbers. */
        private static final String WORDS = "girl   shared bred   twice  late   calm   wait   turn   leave  if     or     and    not    month  faith  dowry  house  number ";
        private static final int WIDTH = 7, WORD_COUNT = 18;
        static final int WAIT = 6, LEAVE = 8, IF = 9, OR = 10, AND = 11, NOT = 12, FIRST_FACT = 13, FACTS = 5;
        static final int SEMICOLON = 18, OPEN = 19, CLOSE = 20, LESS = 21, EQUAL = 22, GREATER = 23;
        static final int STRAY = 24, END = 25;
        /** A NUMBER is told by this and itself. */
        static final int NUMBERS = 100;
        private static final int MOST_DIGITS = 4, MOST_OPEN = 3;

        int length;
        private final int[] bytes = new int[ROOM];
        private final int[] tokens = new int[ROOM + 1];
        private final int[] places = new int[ROOM + 1];
        /** The token that comes. It goes on only when that token can stand there, so it stays at the FAULT. */
        private int at;

        boolean hasRoomFor(int n) {
            return length + n <= ROOM;
        }

        int takes(long eight, int n) {
            for (int i = 0; i < n && length < ROOM; i++) {
                bytes[length] = (int) (eight >>> 8 * i) & 255;
                length++;
            }
            return length;
        }

        int readInto(Book book) {
            split();
            length = 0;
            at = 0;
            book.clear();
            boolean right = true;
            for (int r = 0; r < Book.MOST_RULES && right && tokens[at] != END; r++) {
                right = readRule(book);
            }
            return right && tokens[at] == END ? book.count : -100 - places[at];
        }

        private void split() {
            int count = 0;
            for (int i = 0; i < length; i++) {
                if (bytes[i] != ' ' && !goesOn(i)) {
                    tokens[count] = tokenOf(i);
                    places[count] = i;
                    count++;
                }
            }
            tokens[count] = END;
            places[count] = length;
        }

        private static boolean isLetter(int b) {
            return b >= 'a' && b <= 'z';
        }

        private static boolean isDigit(int b) {
            return b >= '0' && b <= '9';
        }

        /** Whether a byte belongs to the NAME or NUMBER of the byte ahead of it. */
        private boolean goesOn(int i) {
            if (i == 0) {
                return false;
            }
            return (isLetter(bytes[i - 1]) && isLetter(bytes[i])) || (isDigit(bytes[i - 1]) && isDigit(bytes[i]));
        }

        private int tokenOf(int start) {
            int end = start + 1;
            while (end < length && goesOn(end)) {
                end++;
            }
            if (isLetter(bytes[start])) {
                return wordOf(start, end - start);
            }
            if (isDigit(bytes[start])) {
                return numberOf(start, end);
            }
            switch (bytes[start]) {
                case ';': return SEMICOLON;
                case '(': return OPEN;
                case ')': return CLOSE;
                case '<': return LESS;
                case '=': return EQUAL;
                case '>': return GREATER;
                default: return STRAY;
            }
        }

        private int numberOf(int start, int end) {
            if (end - start > MOST_DIGITS) {
                return STRAY;
            }
            int number = 0;
            for (int i = start; i < end; i++) {
                number = 10 * number + bytes[i] - '0';
            }
            return NUMBERS + number;
        }

        private int wordOf(int start, int size) {
            for (int word = 0; word < WORD_COUNT && size < WIDTH; word++) {
                if (isWord(word, start, size)) {
                    return word;
                }
            }
            return STRAY;
        }

        private boolean isWord(int word, int start, int size) {
            for (int i = 0; i < size; i++) {
                if (bytes[start + i] != WORDS.charAt(word * WIDTH + i)) {
                    return false;
                }
            }
            return WORDS.charAt(word * WIDTH + size) == ' ';
        }

        private boolean reads(int token) {
            boolean there = tokens[at] == token;
            at += there ? 1 : 0;
            return there;
        }

        private boolean readRule(Book book) {
            int kind = tokens[at];
            if (!within(kind, GIRL, CALM)) {
                return false;
            }
            at++;
            if (reads(IF) && !readCondition(book, 0)) {
                return false;
            }
            int deed = tokens[at];
            if (!within(deed, WAIT, LEAVE)) {
                return false;
            }
            at++;
            book.addRule(kind, deed - WAIT);
            return reads(SEMICOLON);
        }

        /** "and" binds closer than "or", so an "or" is written when the row of "and"s behind it is. */
        private boolean readCondition(Book book, int open) {
            boolean andWaits = false;
            boolean orWaits = false;
            for (int part = 0; part < ROOM; part++) {
                if (!readOne(book, open)) {
                    return false;
                }
                if (andWaits) {
                    book.writes(AND);
                }
                andWaits = reads(AND);
                if (andWaits) {
                    continue;
                }
                if (orWaits) {
                    book.writes(OR);
                }
                orWaits = reads(OR);
                if (!orWaits) {
                    return true;
                }
            }
            return false;
        }

        private boolean readOne(Book book, int open) {
            boolean turned = false;
            while (at < ROOM && tokens[at] == NOT) {
                turned = !turned;
                at++;
            }
            boolean right;
            if (tokens[at] == OPEN && open < MOST_OPEN) {
                at++;
                right = readCondition(book, open + 1) && reads(CLOSE);
            } else {
                right = readComparison(book);
            }
            if (right && turned) {
                book.writes(NOT);
            }
            return right;
        }

        private static boolean isValue(int token) {
            return token >= NUMBERS || within(token, FIRST_FACT, FIRST_FACT + FACTS - 1);
        }

        private boolean readComparison(Book book) {
            int left = tokens[at];
            if (!isValue(left)) {
                return false;
            }
            at++;
            int sign = tokens[at];
            if (!within(sign, LESS, GREATER)) {
                return false;
            }
            at++;
            int right = tokens[at];
            if (!isValue(right)) {
                return false;
            }
            at++;
            book.writes(sign);
            book.writes(left);
            book.writes(right);
            return true;
        }
    }

    /** Goes through PLANS and GAMES from how it is now; and ROWS. */
    private static final class Plans {
        int months;
        int most;
        int bestOnes;
        final int[] bestActs = new int[LONGEST_PLAN];
        /** More than any PLAN can have: no PLAN keeps the told ones promised. */
        int fewest;
        /** The GIRLS of whom each is promised behind some PLAN. */
        int everPromised;
        int opening;
        int rowCount;
        final int[] rows = new int[3 * LONGEST_PLAN];

        private Coast coast;
        private int wanted;
        private final int[] acts = new int[LONGEST_PLAN];
        /** How it is behind so many ACTS of the PLAN that is tried. */
        private final Course[] behind = new Course[LONGEST_PLAN + 1];

        Plans() {
            for (int i = 0; i <= LONGEST_PLAN; i++) {
                behind[i] = new Course();
            }
        }

        private void begin(Coast from, int n) {
            coast = from;
            int left = from.end - from.now.month;
            months = left < n ? left : n;
            behind[0].copyFrom(from.now);
        }

        void search(Coast from, int n, int set) {
            begin(from, n);
            wanted = set;
            most = -1;
            fewest = LONGEST_PLAN + 1;
            everPromised = 0;
            tryActs(0, 0, 0);
        }

        /** ACTS are tried from the least on, so the first of the BEST PLANS that is met is the FIRST. */
        private void tryActs(int depth, int worth, int hidden) {
            if (depth >= months) {
                weigh(worth, hidden);
                return;
            }
            for (int act = 0; act <= coast.girls; act++) {
                acts[depth] = act;
                behind[depth + 1].copyFrom(behind[depth]);
                int gained = behind[depth + 1].passes(coast, act);
                tryActs(depth + 1, worth + gained, act == 0 ? hidden : hidden + 1);
            }
        }

        private void weigh(int worth, int hidden) {
            if (worth > most) {
                most = worth;
                bestOnes = 0;
                System.arraycopy(acts, 0, bestActs, 0, LONGEST_PLAN);
            }
            bestOnes += worth == most ? 1 : 0;
            int promised = behind[months].promisedSet(coast);
            everPromised |= promised;
            if ((wanted & ~promised) == 0 && hidden < fewest) {
                fewest = hidden;
            }
        }

        int gameFrom(Coast from, int n) {
            begin(from, n);
            return gameValue(0);
        }

        private int gameValue(int depth) {
            if (depth >= months) {
                return 0;
            }
            int value = 0;
            for (int act = 0; act <= coast.girls; act++) {
                behind[depth + 1].copyFrom(behind[depth]);
                int worth = behind[depth + 1].passes(coast, act);
                worth += gameValue(depth + 1);
                boolean better = depth % 2 == 0 ? worth > value : worth < value;
                if (act == 0 || better) {
                    value = worth;
                    opening = depth == 0 ? act : opening;
                }
            }
            return value;
        }

        /** ROWS of what search() found latest. */
        int writeRows() {
            Course course = behind[0];
            for (int k = 0; k < months; k++) {
                rows[3 * k] = bestActs[k];
                rows[3 * k + 1] = course.passes(coast, bestActs[k]);
                rows[3 * k + 2] = course.promisedSet(coast);
            }
            rowCount = months;
            return rowCount;
        }

        boolean hasCell(int k, int what) {
            return within(k, 0, rowCount - 1) && within(what, 0, 2);
        }

        /** 1 more than the first ROW that isn't right; 0 if there is none. */
        int firstWrongRow(Coast from) {
            begin(from, rowCount);
            Course course = behind[0];
            for (int k = 0; k < rowCount; k++) {
                boolean right = k < months && from.isAct(rows[3 * k])
                    && rows[3 * k + 1] == course.passes(from, rows[3 * k])
                    && rows[3 * k + 2] == course.promisedSet(from);
                if (!right) {
                    return k + 1;
                }
            }
            return 0;
        }
    }

    /** A GIRL held as a thing of her KIND. It notes each body that begins, till one would part by 0. */
    private static class Girl {
        final int n;
        final int a;
        private final int[] traced;
        int begun;
        boolean parted;

        Girl(int n, int a, int[] traced) {
            this.n = n;
            this.a = a;
            this.traced = traced;
        }

        /** Behind a parting by 0 the bodies still run to their ends, for nothing: none of them counts as begun. */
        void begins(int body) {
            if (!parted && begun < traced.length) {
                traced[begun] = body;
                begun++;
            }
        }

        int sails(int x) {
            begins(10);
            return x * 3 - n;
        }

        int calls(int x) {
            begins(11);
            return sails(x) + a;
        }

        int shares(int x) {
            begins(12);
            if (n == a) {
                parted = true;
                return 0;
            }
            return x % (n - a);
        }

        int weds(int x) {
            begins(13);
            int called = calls(x);
            return called - shares(x);
        }
    }

    private static final class Shared extends Girl {
        Shared(int n, int a, int[] traced) {
            super(n, a, traced);
        }

        int sails(int x) {
            begins(20);
            return super.sails(x) - 2;
        }
    }

    private static class Bred extends Girl {
        Bred(int n, int a, int[] traced) {
            super(n, a, traced);
        }

        int calls(int x) {
            begins(30);
            return super.calls(x) ^ n;
        }
    }

    private static final class Twice extends Bred {
        Twice(int n, int a, int[] traced) {
            super(n, a, traced);
        }

        int sails(int x) {
            begins(50);
            return super.sails(x + 1);
        }

        int weds(int x) {
            begins(51);
            int wed = super.weds(x);
            return wed + calls(a);
        }
    }

    private static class Late extends Girl {
        Late(int n, int a, int[] traced) {
            super(n, a, traced);
        }

        int shares(int x) {
            begins(40);
            return super.shares(x) * 2;
        }
    }

    private static final class Calm extends Late {
        Calm(int n, int a, int[] traced) {
            super(n, a, traced);
        }

        int calls(int x) {
            begins(60);
            return 1 - super.calls(x);
        }

        int shares(int x) {
            begins(61);
            int shared = super.shares(x);
            return shared ^ sails(n);
        }
    }
}
