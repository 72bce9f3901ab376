/**
 * The vintner's cellar that floods: barrels in tiers, tides that go by, and what may be asked of them.
 * DOC.md tells what each call answers; the words in capitals in the comments are its terms.
 */
public final class FloodCellar {
    public static final int BAD = -1, FULL = -2, NONE = -3, STATE = -4;

    private static final int NO_THING = -11, OUTSIDE = -12, OTHER_SORT = -13, SIZE_BELOW_0 = -14, PARTED_BY_0 = -15;
    private static final int NO_ROW = -9, FAULT_BASE = -100;

    private static final int MOST_BARRELS = 6, MOST_TIERS = 6, MOST_TIDES = 16, MOST_KINDS = 6;
    private static final int MOST_FILL = 99, MOST_CHALK = 9, MOST_MARK = 9, MOST_WATER = 15;
    private static final int MOST_RULES = 8, MOST_BYTES = 200, MOST_REPORTS = 6, MOST_PLAN = 4, MOST_TRACE = 30;
    private static final int MOST_SHEETS = 4, MOST_SHELVES = 4, MOST_ITEMS = 40, MOST_GONE = 20;

    private static final int STAKE = 0, BUNG = 2;
    private static final int OF_BARREL = 0, OF_ROW = 1, OF_NOTHING = 2;
    private static final int BYTES = 0, SHORTS = 1, BOOLEANS = 4, MISSING = -1;
    private static final int ROW_AS = 10;

    private final Vault vault;
    private final Vault kept;
    private boolean isKept;
    private final Flood trial = new Flood();
    private final Plans plans;
    private final Trace ran = new Trace();

    private final byte[] tape = new byte[MOST_BYTES];
    private int tapeSize;
    private final Rules told = new Rules();

    private final int[] rowFields = new int[MOST_PLAN * 3];
    private int rowCount;

    private final int[] sheetSorts = {MISSING, MISSING, MISSING, MISSING};
    private final int[] sheetSizes = new int[MOST_SHEETS];
    private final int[][] sheetItems = new int[MOST_SHEETS][MOST_ITEMS];

    private final int[] shelfHolds = {OF_NOTHING, OF_NOTHING, OF_NOTHING, OF_NOTHING};
    private final int[] shelfNumbers = new int[MOST_SHELVES];
    private final int[] shelfSizes = new int[MOST_SHELVES];

    public FloodCellar() {
        Barrel[] natures = {new Barrel(), new Vat(), new Tun(), new Butt(), new Keg(), new Cask()};
        vault = new Vault(natures);
        kept = new Vault(natures);
        plans = new Plans(vault);
    }

    // ---- the vault, barrels

    public int barrel(int kind, int fill, int chalk, int tier) {
        if (!within(kind, 1, MOST_KINDS - 1) || !within(fill, 0, MOST_FILL)) return BAD;
        if (!within(chalk, 0, MOST_CHALK) || !within(tier, 0, MOST_TIERS - 1)) return BAD;
        if (vault.count >= MOST_BARRELS) return FULL;
        int k = vault.count;
        vault.count++;
        vault.kinds[k] = kind;
        vault.tiers[k] = tier;
        vault.now.fills[k] = fill;
        vault.now.chalks[k] = chalk;
        vault.now.putStaked(k, 0);
        return k;
    }

    public int barrelOf(int k, int what) {
        if (!vault.has(k)) return BAD;
        Flood now = vault.now;
        switch (what) {
            case 0: return vault.kinds[k];
            case 1: return now.fills[k];
            case 2: return now.chalks[k];
            case 3: return vault.tiers[k];
            case 4: return now.staked >> k & 1;
            case 5: return vault.leaks(now, k);
            case 6: return vault.floatsOf(now, k);
            case 7: return vault.pays(now, k);
            case 8: return vault.may(now, k) ? 1 : 0;
            case 9: return vault.will(now, k);
            default: return BAD;
        }
    }

    public int change(int k, int what, int v) {
        if (!vault.has(k)) return BAD;
        Flood now = vault.now;
        switch (what) {
            case 1: return within(v, 0, MOST_FILL) ? put(now.fills, k, v) : BAD;
            case 2: return within(v, 0, MOST_CHALK) ? put(now.chalks, k, v) : BAD;
            case 3: return within(v, 0, MOST_TIERS - 1) ? put(vault.tiers, k, v) : BAD;
            case 4: return within(v, 0, 1) ? now.putStaked(k, v) : BAD;
            default: return BAD;
        }
    }

    public int remake(int k, int kind) {
        if (!vault.has(k) || !within(kind, 1, MOST_KINDS - 1)) return BAD;
        return put(vault.kinds, k, kind);
    }

    public int water(int tide, int v) {
        if (!within(tide, 0, MOST_TIDES - 1) || !within(v, 0, MOST_WATER)) return BAD;
        return put(vault.waters, tide, v);
    }

    public int tier(int f, int what, int v) {
        if (!within(f, 0, MOST_TIERS - 1) || !within(what, 0, 1) || !within(v, 0, MOST_MARK)) return BAD;
        return put(what == 0 ? vault.steps : vault.grates, f, v);
    }

    public int tierOf(int f, int what) {
        if (!within(f, 0, MOST_TIERS - 1) || !within(what, 0, 1)) return BAD;
        return what == 0 ? vault.steps[f] : vault.grates[f];
    }

    public int ends(int v) {
        if (!within(v, 1, MOST_TIDES)) return BAD;
        if (v < vault.now.tide) return STATE;
        int was = vault.end;
        vault.end = v;
        return was;
    }

    public int anew() {
        int was = vault.now.tide;
        vault.now.tide = 0;
        vault.now.staked = 0;
        vault.score = 0;
        return was;
    }

    public int state(int what) {
        Flood now = vault.now;
        switch (what) {
            case 0: return now.tide;
            case 1: return vault.end;
            case 2: return vault.score;
            case 3: return vault.isOver(now) ? 1 : 0;
            case 4: return now.staked;
            case 5: return vault.waterAt(now.tide);
            case 6: return vault.allFill(now);
            default: return BAD;
        }
    }

    // ---- the rules

    public int feed(long eight, int n) {
        if (!within(n, 1, 8)) return BAD;
        if (tapeSize + n > MOST_BYTES) return FULL;
        for (int i = 0; i < n; i++) {
            tape[tapeSize] = (byte) (eight >> (8 * i));
            tapeSize++;
        }
        return tapeSize;
    }

    public int rules() {
        int fault = told.read(tape, tapeSize);
        tapeSize = 0;
        if (fault >= 0) return FAULT_BASE - fault;
        vault.rules.take(told);
        return vault.rules.count;
    }

    // ---- tides

    public int tide() {
        if (vault.isOver(vault.now)) return STATE;
        return goBy(vault.restAct(vault.now));
    }

    public int on(int n) {
        if (!within(n, 0, MOST_TIDES)) return BAD;
        trial.take(vault.now);
        return vault.rest(trial, n);
    }

    public int when(int k) {
        if (!vault.has(k)) return BAD;
        trial.take(vault.now);
        if (trial.isStaked(k)) return NONE;
        for (int t = trial.tide; t < vault.end; t++) {
            vault.pass(trial, vault.restAct(trial));
            if (trial.isStaked(k)) return t;
        }
        return NONE;
    }

    public int chalkFor(int k) {
        if (!vault.has(k)) return BAD;
        int chosen = 0;
        int most = -1;
        for (int chalk = 0; chalk <= MOST_CHALK; chalk++) {
            trial.take(vault.now);
            trial.chalks[k] = chalk;
            int worth = vault.rest(trial, MOST_TIDES);
            if (worth > most) {
                most = worth;
                chosen = chalk;
            }
        }
        return chosen;
    }

    public int tierFor(int k) {
        if (!vault.has(k)) return BAD;
        int own = vault.tiers[k];
        int chosen = 0;
        int most = -1;
        for (int f = 0; f < MOST_TIERS; f++) {
            trial.take(vault.now);
            vault.tiers[k] = f;
            int worth = vault.rest(trial, MOST_TIDES);
            if (worth > most) {
                most = worth;
                chosen = f;
            }
        }
        vault.tiers[k] = own;
        return chosen;
    }

    // ---- which is empty when, what step it takes, what is left, rafts

    public int dry(int k) {
        if (!vault.has(k)) return BAD;
        trial.take(vault.now);
        if (trial.fills[k] == 0) return trial.tide;
        for (int t = trial.tide; t < vault.end; t++) {
            vault.pass(trial, vault.restAct(trial));
            if (trial.fills[k] == 0) return trial.tide;
        }
        return NONE;
    }

    public int least(int k) {
        if (!vault.has(k)) return BAD;
        int f = vault.tiers[k];
        int own = vault.steps[f];
        int found = NONE;
        for (int step = MOST_MARK; step >= 0; step--) {
            vault.steps[f] = step;
            if (vault.pays(vault.now, k) > 0) found = step;
        }
        vault.steps[f] = own;
        return found;
    }

    public int left(int n, int what) {
        if (!within(n, 0, MOST_TIDES) || !within(what, 0, 1)) return BAD;
        trial.take(vault.now);
        vault.rest(trial, n);
        return what == 0 ? vault.allFill(trial) : trial.staked;
    }

    public int rafts(int what) {
        if (what == -1) return countRafts();
        return vault.has(what) ? raftOf(what) : BAD;
    }

    // ---- plans

    public int best(int n) {
        if (!within(n, 0, MOST_PLAN)) return BAD;
        plans.lookAhead(n, 0);
        return plans.most;
    }

    public int ith(int n, int i) {
        if (!within(n, 0, MOST_PLAN) || !within(i, 0, MOST_PLAN - 1)) return BAD;
        if (i >= plans.lengthOf(n)) return NONE;
        plans.lookAhead(n, 0);
        return plans.first[i];
    }

    public int ways(int n) {
        if (!within(n, 0, MOST_PLAN)) return BAD;
        plans.lookAhead(n, 0);
        return plans.ties;
    }

    public int chart(int n, int barrels) {
        if (!within(n, 0, MOST_PLAN) || !isSetOfBarrels(barrels)) return BAD;
        plans.lookAhead(n, barrels);
        return plans.fewest < 0 ? NONE : plans.fewest;
    }

    public int bars(int n, int barrels) {
        if (!within(n, 0, MOST_PLAN) || !isSetOfBarrels(barrels)) return BAD;
        plans.lookAhead(n, barrels);
        int never = barrels & ~plans.reached;
        return never == 0 ? NONE : Integer.numberOfTrailingZeros(never);
    }

    // ---- a game, strangers, lots

    public int game(int n) {
        return within(n, 1, MOST_PLAN) ? plans.gameOf(n) : BAD;
    }

    public int play(int n) {
        if (!within(n, 1, MOST_PLAN)) return BAD;
        if (vault.isOver(vault.now)) return NONE;
        plans.gameOf(n);
        return plans.opening;
    }

    public int report(int k, int asked, int least, int most) {
        if (!within(k, 0, MOST_TIDES - 1) || !within(asked, 0, 1)) return BAD;
        int limit = asked == 0 ? MOST_FILL : MOST_TIDES;
        if (!within(least, 0, limit) || !within(most, least, limit)) return BAD;
        if (vault.reports >= MOST_REPORTS) return FULL;
        int number = vault.reports;
        vault.reports++;
        vault.reportTides[number] = k;
        vault.reportAsked[number] = asked;
        vault.reportLeast[number] = least;
        vault.reportMost[number] = most;
        return number;
    }

    public int forget() {
        int were = vault.reports;
        vault.reports = 0;
        return were;
    }

    public int lone(int what) {
        if (!within(what, 0, 3)) return BAD;
        int fits = 0;
        for (int lone = 0; lone < Vault.LONE_BARRELS; lone++) {
            if (vault.denied(lone) != 0) continue;
            if (what == 1) return Vault.loneKind(lone);
            if (what == 2) return Vault.loneChalk(lone);
            if (what == 3) return Vault.loneFill(lone);
            fits++;
        }
        return what == 0 ? fits : NONE;
    }

    public int liar() {
        int liars = 0;
        for (int lone = 0; lone < Vault.LONE_BARRELS; lone++) {
            int denied = vault.denied(lone);
            if (denied == 0) return NONE;
            // Only who is denied by one REPORT alone would fit without it.
            if (Integer.bitCount(denied) == 1) liars |= denied;
        }
        return liars == 0 ? NONE : Integer.numberOfTrailingZeros(liars);
    }

    public int seed(int v) {
        int was = vault.z;
        vault.z = v;
        return was;
    }

    public int lot() {
        if (vault.isOver(vault.now)) return STATE;
        vault.z = nextLot(vault.z);
        return goBy(actByLot(vault.z));
    }

    public int times(int n, int v) {
        if (!within(n, 1, 40) || !within(v, 0, 999)) return BAD;
        int z = vault.z;
        int reached = 0;
        for (int i = 0; i < n; i++) {
            trial.take(vault.now);
            int worth = 0;
            for (int t = trial.tide; t < vault.end; t++) {
                z = nextLot(z);
                worth += vault.pass(trial, actByLot(z));
            }
            if (worth >= v) reached++;
        }
        return reached;
    }

    // ---- rows

    public int prove(int n) {
        if (!within(n, 0, MOST_PLAN)) return BAD;
        plans.lookAhead(n, 0);
        rowCount = plans.lengthOf(n);
        trial.take(vault.now);
        for (int k = 0; k < rowCount; k++) {
            rowFields[3 * k] = plans.first[k];
            rowFields[3 * k + 1] = vault.pass(trial, plans.first[k]);
            rowFields[3 * k + 2] = trial.staked;
        }
        return rowCount;
    }

    public int row(int k, int what) {
        return isRowField(k, what) ? rowFields[3 * k + what] : NO_ROW;
    }

    public int alterRow(int k, int what, int v) {
        return isRowField(k, what) ? put(rowFields, 3 * k + what, v) : NO_ROW;
    }

    public int judge() {
        trial.take(vault.now);
        for (int k = 0; k < rowCount; k++) {
            int act = rowFields[3 * k];
            if (vault.isOver(trial) || !isAct(act)) return k + 1;
            int worth = vault.pass(trial, act);
            if (worth != rowFields[3 * k + 1] || trial.staked != rowFields[3 * k + 2]) return k + 1;
        }
        return 0;
    }

    // ---- the host

    public int sheet(int sheet, int sort, int n) {
        if (!isSheet(sheet) || !within(sort, MISSING, BOOLEANS)) return BAD;
        if (sort != MISSING && n > MOST_ITEMS) return BAD;
        if (sort != MISSING && n < 0) return SIZE_BELOW_0;
        sheetSorts[sheet] = sort;
        sheetSizes[sheet] = sort == MISSING ? 0 : n;
        for (int i = 0; i < MOST_ITEMS; i++) sheetItems[sheet][i] = 0;
        return 1;
    }

    public int write(int sheet, int i, int v) {
        if (!isSheet(sheet)) return BAD;
        if (sheetSorts[sheet] == MISSING) return NO_THING;
        if (!within(i, 0, sheetSizes[sheet] - 1)) return OUTSIDE;
        sheetItems[sheet][i] = narrowed(v, sheetSorts[sheet]);
        return 1;
    }

    public int item(int sheet, int sort, int i) {
        if (!isSheet(sheet) || !within(sort, 0, BOOLEANS)) return BAD;
        int refusal = refusalAs(sheet, sort);
        if (refusal != 0) return refusal;
        return within(i, 0, sheetSizes[sheet] - 1) ? sheetItems[sheet][i] : OUTSIDE;
    }

    public int goAll(int sheet, int i, int n) {
        if (!isSheet(sheet) || !within(n, 0, MOST_GONE)) return BAD;
        int refusal = refusalAs(sheet, BYTES);
        if (refusal != 0) return refusal;
        int worth = 0;
        for (int j = 0; j < n; j++) {
            if (!within(i + j, 0, sheetSizes[sheet] - 1)) return OUTSIDE;
            int act = sheetItems[sheet][i + j];
            if (isAct(act) && !vault.isOver(vault.now)) worth += goBy(act);
        }
        return worth;
    }

    public int wouldBe(int sheet, int i, int n) {
        if (!isSheet(sheet) || !within(n, 0, MOST_GONE)) return BAD;
        int refusal = refusalAs(sheet, BYTES);
        if (refusal != 0) return refusal;
        trial.take(vault.now);
        int worth = 0;
        for (int j = 0; j < n; j++) {
            if (!within(i + j, 0, sheetSizes[sheet] - 1)) return OUTSIDE;
            int act = sheetItems[sheet][i + j];
            if (!isAct(act) || vault.isOver(trial)) return STATE;
            worth += vault.pass(trial, act);
        }
        return worth;
    }

    public int shelf(int shelf, int what, int n) {
        if (!isShelf(shelf)) return BAD;
        switch (what) {
            case OF_BARREL: return vault.has(n) ? place(shelf, OF_BARREL, n, 0) : BAD;
            case OF_ROW: return isSheet(n) ? placeRow(shelf, n) : BAD;
            case OF_NOTHING: return place(shelf, OF_NOTHING, 0, 0);
            default: return BAD;
        }
    }

    public int taken(int shelf, int as) {
        boolean asThing = within(as, 0, MOST_KINDS - 1);
        boolean asRow = within(as, ROW_AS, ROW_AS + BOOLEANS);
        if (!isShelf(shelf) || !asThing && !asRow) return BAD;
        if (holdsNothing(shelf)) return NO_THING;
        int number = shelfNumbers[shelf];
        if (shelfHolds[shelf] == OF_ROW) return as == ROW_AS + number ? shelfSizes[shelf] : OTHER_SORT;
        return asThing && Barrel.isUnder(vault.kinds[number], as) ? number : OTHER_SORT;
    }

    public int act(int shelf, int act, int x) {
        ran.clear();
        if (!isShelf(shelf) || !within(act, 0, 3)) return 0;
        if (holdsNothing(shelf) || shelfHolds[shelf] == OF_ROW) return 0;
        int k = shelfNumbers[shelf];
        ran.n = k;
        ran.a = vault.tiers[k];
        Barrel thing = vault.natures[vault.kinds[k]];
        int answer;
        switch (act) {
            case 0: answer = thing.rolls(ran, x); break;
            case 1: answer = thing.seeps(ran, x); break;
            case 2: answer = thing.hoops(ran, x); break;
            default: answer = thing.floods(ran, x); break;
        }
        return ran.parted ? PARTED_BY_0 : answer;
    }

    public int trace(int i) {
        return within(i, 0, ran.size - 1) ? ran.bodies[i] : NONE;
    }

    public int many(int what) {
        switch (what) {
            case 0: return vault.count;
            case 1: return vault.rules.count;
            case 2: return Integer.bitCount(vault.now.staked);
            case 3: return vault.reports;
            case 4: return rowCount;
            case 5: return tapeSize;
            case 6: return ran.size;
            default: return BAD;
        }
    }

    // ---- kept

    public int keep() {
        kept.take(vault);
        isKept = true;
        return 1;
    }

    public int again() {
        if (!isKept) return NONE;
        vault.take(kept);
        return vault.count;
    }

    // ---- helpers of the calls

    private static boolean within(int v, int from, int to) {
        return v >= from && v <= to;
    }

    private static int put(int[] values, int i, int v) {
        int was = values[i];
        values[i] = v;
        return was;
    }

    private int goBy(int act) {
        int worth = vault.pass(vault.now, act);
        vault.score += worth;
        return worth;
    }

    private boolean isAct(int act) {
        return within(act, 0, vault.count);
    }

    private boolean isSetOfBarrels(int barrels) {
        return within(barrels, 0, (1 << vault.count) - 1);
    }

    private static int nextLot(int z) {
        return z * 1103515245 + 12345;
    }

    private int actByLot(int z) {
        return (z >>> 16) % (vault.count + 1);
    }

    private int countRafts() {
        int seen = 0;
        int found = 0;
        for (int k = 0; k < vault.count; k++) {
            if (vault.now.isStaked(k) || (seen >> k & 1) == 1) continue;
            seen |= raftOf(k);
            found++;
        }
        return found;
    }

    private int raftOf(int k) {
        if (vault.now.isStaked(k)) return 0;
        int raft = 1 << k;
        // A chain of CLOSE ones has fewer links than there are BARRELS.
        for (int link = 1; link < vault.count; link++) {
            for (int other = 0; other < vault.count; other++) {
                if (vault.isCloseToAny(other, raft)) raft |= 1 << other;
            }
        }
        return raft;
    }

    private boolean isRowField(int k, int what) {
        return within(k, 0, rowCount - 1) && within(what, 0, 2);
    }

    private static boolean isSheet(int sheet) {
        return within(sheet, 0, MOST_SHEETS - 1);
    }

    private static boolean isShelf(int shelf) {
        return within(shelf, 0, MOST_SHELVES - 1);
    }

    private int refusalAs(int sheet, int sort) {
        if (sheetSorts[sheet] == MISSING) return NO_THING;
        return sheetSorts[sheet] == sort ? 0 : OTHER_SORT;
    }

    private static int narrowed(int v, int sort) {
        switch (sort) {
            case BYTES: return (byte) v;
            case SHORTS: return (short) v;
            case BOOLEANS: return v != 0 ? 1 : 0;
            // Of a long only the lowest 32 bits are ever asked for, so an int holds all of it.
            default: return v;
        }
    }

    private int place(int shelf, int holds, int number, int size) {
        shelfHolds[shelf] = holds;
        shelfNumbers[shelf] = number;
        shelfSizes[shelf] = size;
        return 1;
    }

    private int placeRow(int shelf, int sheet) {
        if (sheetSorts[sheet] == MISSING) return place(shelf, OF_NOTHING, 0, 0);
        // The SHELF keeps this row when the SHEET gets another; sort and size are all that is asked of it.
        return place(shelf, OF_ROW, sheetSorts[sheet], sheetSizes[sheet]);
    }

    private boolean holdsNothing(int shelf) {
        if (shelfHolds[shelf] == OF_NOTHING) return true;
        return shelfHolds[shelf] == OF_BARREL && !vault.has(shelfNumbers[shelf]);
    }

    /** What changes while TIDES go by; many may be tried beside the one that is. */
    private static final class Flood {
        final int[] fills = new int[MOST_BARRELS];
        final int[] chalks = new int[MOST_BARRELS];
        int staked;
        int tide;

        void take(Flood other) {
            for (int k = 0; k < MOST_BARRELS; k++) {
                fills[k] = other.fills[k];
                chalks[k] = other.chalks[k];
            }
            staked = other.staked;
            tide = other.tide;
        }

        boolean isStaked(int k) {
            return (staked >> k & 1) == 1;
        }

        int putStaked(int k, int v) {
            int was = staked >> k & 1;
            staked = staked & ~(1 << k) | v << k;
            return was;
        }
    }

    /** All that keep() keeps, and how a TIDE goes by in it. */
    private static final class Vault {
        static final int LONE_BARRELS = 500;

        final Barrel[] natures;
        final int[] kinds = new int[MOST_BARRELS];
        final int[] tiers = new int[MOST_BARRELS];
        final int[] waters = {9, 9, 9, 9, 9, 9, 9, 9, 9, 9, 9, 9, 9, 9, 9, 9};
        final int[] steps = new int[MOST_TIERS];
        final int[] grates = new int[MOST_TIERS];
        final Flood now = new Flood();
        final Rules rules = new Rules();
        final int[] reportTides = new int[MOST_REPORTS];
        final int[] reportAsked = new int[MOST_REPORTS];
        final int[] reportLeast = new int[MOST_REPORTS];
        final int[] reportMost = new int[MOST_REPORTS];
        int count;
        int end = 12;
        int score;
        int reports;
        int z = 1;

        Vault(Barrel[] natures) {
            this.natures = natures;
        }

        void take(Vault other) {
            copy(other.kinds, kinds);
            copy(other.tiers, tiers);
            copy(other.waters, waters);
            copy(other.steps, steps);
            copy(other.grates, grates);
            now.take(other.now);
            rules.take(other.rules);
            copy(other.reportTides, reportTides);
            copy(other.reportAsked, reportAsked);
            copy(other.reportLeast, reportLeast);
            copy(other.reportMost, reportMost);
            count = other.count;
            end = other.end;
            score = other.score;
            reports = other.reports;
            z = other.z;
        }

        private static void copy(int[] from, int[] to) {
            System.arraycopy(from, 0, to, 0, Math.min(from.length, to.length));
        }

        boolean has(int k) {
            return k >= 0 && k < count;
        }

        boolean isOver(Flood flood) {
            return flood.tide >= end;
        }

        int waterAt(int tide) {
            return tide >= 0 && tide < MOST_TIDES ? waters[tide] : 0;
        }

        int riseAt(int tide) {
            return waterAt(tide) >> 2;
        }

        int saltAt(int tide) {
            return waterAt(tide) & 3;
        }

        int allFill(Flood flood) {
            int all = 0;
            for (int k = 0; k < count; k++) all += flood.fills[k];
            return all;
        }

        int leaks(Flood flood, int k) {
            int own = natures[kinds[k]].leak(riseAt(flood.tide), saltAt(flood.tide), flood.tide);
            return Math.max(0, own + grates[tiers[k]] - 2 * stakedIn(flood, tiers[k] - 1));
        }

        private int stakedIn(Flood flood, int tier) {
            if (flood.staked == 0) return 0;
            int there = 0;
            for (int k = 0; k < count; k++) {
                if (tiers[k] == tier && flood.isStaked(k)) there++;
            }
            return there;
        }

        int floatsOf(Flood flood, int k) {
            return natures[kinds[k]].lift(flood.fills[k], flood.chalks[k], k);
        }

        int pays(Flood flood, int k) {
            int fill = flood.fills[k];
            if (flood.isStaked(k) || fill == 0) return 0;
            int lift = natures[kinds[k]].lift(fill, flood.chalks[k], k);
            return lift + riseAt(flood.tide) <= 4 + steps[tiers[k]] ? 3 + fill / 9 : 0;
        }

        int will(Flood flood, int k) {
            return rules.willOf(kinds[k], flood, k, riseAt(flood.tide));
        }

        boolean may(Flood flood, int k) {
            return pays(flood, k) > 0 && will(flood, k) == STAKE;
        }

        int restAct(Flood flood) {
            for (int k = 0; k < count; k++) {
                if (may(flood, k)) return k + 1;
            }
            return 0;
        }

        int rest(Flood flood, int n) {
            int worth = 0;
            for (int i = 0; i < n && !isOver(flood); i++) worth += pass(flood, restAct(flood));
            return worth;
        }

        int pass(Flood flood, int act) {
            int worth = 0;
            int told = act - 1;
            if (has(told) && !flood.isStaked(told)) {
                int will = will(flood, told);
                if (will == STAKE) {
                    worth = pays(flood, told);
                    if (worth > 0) flood.putStaked(told, 1);
                } else if (will == BUNG) {
                    worth = bung(flood, told);
                }
            }
            // What one LEAKS hangs on no FILL, so they may leak one behind the other.
            for (int k = 0; k < count; k++) {
                boolean held = flood.isStaked(k);
                int lost = held ? leaks(flood, k) / 3 : leaks(flood, k);
                flood.fills[k] = Math.max(0, flood.fills[k] - lost);
                if (held) worth += flood.fills[k] / 30;
            }
            flood.tide++;
            return worth;
        }

        private int bung(Flood flood, int k) {
            flood.chalks[k] = Math.min(MOST_CHALK, flood.chalks[k] + 2);
            flood.fills[k] = Math.min(MOST_FILL, flood.fills[k] + 3);
            return saltAt(flood.tide) == 0 ? 1 : 0;
        }

        boolean isCloseToAny(int k, int others) {
            if (now.isStaked(k)) return false;
            int lift = floatsOf(now, k);
            for (int other = 0; other < count; other++) {
                if ((others >> other & 1) == 0) continue;
                if (tiers[other] == tiers[k] || floatsOf(now, other) == lift) return true;
            }
            return false;
        }

        // LONE BARRELS are numbered in the order in which lone() looks for the first: KIND, CHALK, FILL.

        static int loneKind(int lone) {
            return 1 + lone / 100;
        }

        static int loneChalk(int lone) {
            return lone / 10 % 10;
        }

        static int loneFill(int lone) {
            return 9 + 10 * (lone % 10);
        }

        /** REPORTS that are not so of a LONE BARREL, as a set. */
        int denied(int lone) {
            Barrel nature = natures[loneKind(lone)];
            int chalk = loneChalk(lone);
            int fill = loneFill(lone);
            int paid = 0;
            int denied = 0;
            int last = lastReported();
            for (int t = 0; t <= last; t++) {
                denied |= deniedBehind(t, fill, paid);
                if (fill > 0 && nature.lift(fill, chalk, 0) + riseAt(t) <= 4) paid++;
                fill = Math.max(0, fill - nature.leak(riseAt(t), saltAt(t), t));
            }
            return denied;
        }

        private int lastReported() {
            int last = -1;
            for (int i = 0; i < reports; i++) last = Math.max(last, reportTides[i]);
            return last;
        }

        private int deniedBehind(int tides, int fill, int paid) {
            int denied = 0;
            for (int i = 0; i < reports; i++) {
                if (reportTides[i] != tides) continue;
                int was = reportAsked[i] == 0 ? fill : paid;
                if (was < reportLeast[i] || was > reportMost[i]) denied |= 1 << i;
            }
            return denied;
        }
    }

    /** PLANS and GAMES from how it is now, each TIDE of them on a Flood of its own. */
    private static final class Plans {
        private final Vault vault;
        private final Flood[] floods = {new Flood(), new Flood(), new Flood(), new Flood(), new Flood()};
        private final int[] acts = new int[MOST_PLAN];
        private int length;
        private int wanted;
        final int[] first = new int[MOST_PLAN];
        int most;
        int ties;
        int fewest;
        int reached;
        int opening;

        Plans(Vault vault) {
            this.vault = vault;
        }

        int lengthOf(int n) {
            return Math.max(0, Math.min(n, vault.end - vault.now.tide));
        }

        private void begin(int n) {
            length = Math.min(MOST_PLAN, lengthOf(n));
            floods[0].take(vault.now);
        }

        void lookAhead(int n, int barrels) {
            begin(n);
            wanted = barrels;
            ties = 0;
            fewest = NONE;
            reached = 0;
            tryAll(0, 0, 0);
        }

        private void tryAll(int depth, int worth, int acted) {
            if (depth >= length) {
                weigh(worth, acted, floods[length].staked);
                return;
            }
            Flood next = floods[depth + 1];
            for (int act = 0; act <= vault.count; act++) {
                acts[depth] = act;
                next.take(floods[depth]);
                int more = vault.pass(next, act);
                tryAll(depth + 1, worth + more, act == 0 ? acted : acted + 1);
            }
        }

        private void weigh(int worth, int acted, int staked) {
            if (ties == 0 || worth > most) {
                most = worth;
                ties = 0;
                for (int i = 0; i < length; i++) first[i] = acts[i];
            }
            if (worth == most) ties++;
            reached |= staked;
            if ((wanted & ~staked) == 0 && (fewest < 0 || acted < fewest)) fewest = acted;
        }

        int gameOf(int n) {
            begin(n);
            opening = 0;
            return valueFrom(0);
        }

        private int valueFrom(int depth) {
            if (depth >= length) return 0;
            Flood next = floods[depth + 1];
            int value = 0;
            int chosen = 0;
            for (int act = 0; act <= vault.count; act++) {
                next.take(floods[depth]);
                int worth = vault.pass(next, act);
                worth += valueFrom(depth + 1);
                boolean better = depth % 2 == 0 ? worth > value : worth < value;
                if (act == 0 || better) {
                    value = worth;
                    chosen = act;
                }
            }
            if (depth == 0) opening = chosen;
            return value;
        }
    }

    /** THE RULES, each condition in the order in which a stack of truths works it off. */
    private static final class Rules {
        private static final String WORDS =
            "barrel vat tun butt keg cask stake leave bung if or and not tide fill chalk rise number ( ) ; < = > ";
        private static final int LAST_KIND = 5, FIRST_DO = 6, LAST_DO = 8, IF = 9, OR = 10, AND = 11, NOT = 12;
        private static final int FIRST_FACT = 13, LAST_FACT = 17, OPEN = 18, CLOSE = 19, STOP = 20;
        private static final int FIRST_SIGN = 21, LAST_SIGN = 23, FIRST_NUMBER = 100, END = -1, UNKNOWN = -2;
        private static final int MOST_OPEN = 3, MOST_DIGITS = 4, FACTS_FROM = 10000;
        private static final int DO_NOT = -1, DO_AND = -2, DO_OR = -3;

        int count;
        private final int[] kinds = new int[MOST_RULES];
        private final int[] deeds = new int[MOST_RULES];
        private final int[] starts = new int[MOST_RULES + 1];
        private final int[] code = new int[MOST_BYTES];
        private int codeSize;
        private final int[] facts = new int[5];

        private final int[] tokens = new int[MOST_BYTES + 1];
        private final int[] places = new int[MOST_BYTES + 1];
        private int at;
        private int fault;

        void take(Rules other) {
            count = other.count;
            codeSize = other.codeSize;
            System.arraycopy(other.kinds, 0, kinds, 0, MOST_RULES);
            System.arraycopy(other.deeds, 0, deeds, 0, MOST_RULES);
            System.arraycopy(other.starts, 0, starts, 0, MOST_RULES + 1);
            System.arraycopy(other.code, 0, code, 0, codeSize);
        }

        int willOf(int kind, Flood flood, int k, int rise) {
            facts[0] = flood.tide;
            facts[1] = flood.fills[k];
            facts[2] = flood.chalks[k];
            facts[3] = rise;
            facts[4] = k;
            for (int rule = 0; rule < count; rule++) {
                if (Barrel.isUnder(kind, kinds[rule]) && holds(rule)) return deeds[rule];
            }
            return STAKE;
        }

        private boolean holds(int rule) {
            // The truths lie on one another as bits, the latest lowest; no condition, no code, is true.
            int truths = 1;
            for (int i = starts[rule]; i < starts[rule + 1]; i++) {
                int what = code[i];
                if (what == DO_NOT) truths ^= 1;
                else if (what == DO_AND) truths = truths >> 1 & (truths | -2);
                else if (what == DO_OR) truths = truths >> 1 | truths & 1;
                else truths = truths << 1 | (compares(what) ? 1 : 0);
            }
            return (truths & 1) == 1;
        }

        private boolean compares(int what) {
            int left = what >> 14 & 16383;
            int right = what & 16383;
            if (left >= FACTS_FROM) left = facts[left - FACTS_FROM];
            if (right >= FACTS_FROM) right = facts[right - FACTS_FROM];
            int sign = what >> 28;
            if (sign == 0) return left < right;
            return sign == 1 ? left == right : left > right;
        }

        /** Reads a TEXT: its FAULT, or a number below 0 if there is none. */
        int read(byte[] text, int size) {
            part(text, size);
            count = 0;
            codeSize = 0;
            at = 0;
            fault = -1;
            // One round more than there may be RULES, for the FAULT of the ninth.
            for (int i = 0; i <= MOST_RULES && fault < 0 && tokens[at] != END; i++) readRule();
            return fault;
        }

        private void readRule() {
            int kind = tokens[at];
            if (count >= MOST_RULES || kind < 0 || kind > LAST_KIND) {
                fault = places[at];
                return;
            }
            at++;
            kinds[count] = kind;
            starts[count] = codeSize;
            if (tokens[at] == IF) {
                at++;
                readCondition(0);
            }
            int deed = expect(FIRST_DO, LAST_DO);
            expect(STOP, STOP);
            if (fault >= 0) return;
            deeds[count] = deed - FIRST_DO;
            count++;
            starts[count] = codeSize;
        }

        private void readCondition(int open) {
            readAll(open);
            for (int i = 0; i < MOST_BYTES && fault < 0 && tokens[at] == OR; i++) {
                at++;
                readAll(open);
                emit(DO_OR);
            }
        }

        private void readAll(int open) {
            readOne(open);
            for (int i = 0; i < MOST_BYTES && fault < 0 && tokens[at] == AND; i++) {
                at++;
                readOne(open);
                emit(DO_AND);
            }
        }

        private void readOne(int open) {
            boolean turned = false;
            for (int i = 0; i < MOST_BYTES && fault < 0 && tokens[at] == NOT; i++) {
                at++;
                turned = !turned;
            }
            if (tokens[at] != OPEN) {
                int left = readValue();
                int sign = expect(FIRST_SIGN, LAST_SIGN) - FIRST_SIGN;
                int right = readValue();
                emit(sign << 28 | left << 14 | right);
            } else if (open >= MOST_OPEN) {
                if (fault < 0) fault = places[at];
            } else {
                at++;
                readCondition(open + 1);
                expect(CLOSE, CLOSE);
            }
            if (turned) emit(DO_NOT);
        }

        private int readValue() {
            if (tokens[at] >= FIRST_NUMBER) return expect(FIRST_NUMBER, FIRST_NUMBER + 9999) - FIRST_NUMBER;
            return expect(FIRST_FACT, LAST_FACT) - FIRST_FACT + FACTS_FROM;
        }

        /** Takes the token that stands here, if it is one of these; else the text is at FAULT here. */
        private int expect(int from, int to) {
            int token = tokens[at];
            if (fault >= 0) return from;
            if (token < from || token > to) {
                fault = places[at];
                return from;
            }
            at++;
            return token;
        }

        private void emit(int what) {
            if (fault >= 0 || codeSize >= MOST_BYTES) return;
            code[codeSize] = what;
            codeSize++;
        }

        private void part(byte[] text, int size) {
            int parts = 0;
            int from = 0;
            for (int i = 0; i < MOST_BYTES && from < size; i++) {
                int behind = endOf(text, from, size);
                if (text[from] != ' ') {
                    places[parts] = from;
                    tokens[parts] = tokenOf(text, from, behind);
                    parts++;
                }
                from = behind;
            }
            places[parts] = size;
            tokens[parts] = END;
        }

        private static int endOf(byte[] text, int from, int size) {
            boolean name = isLetter(text[from]);
            if (!name && !isDigit(text[from])) return from + 1;
            int behind = from + 1;
            while (behind < size && (name ? isLetter(text[behind]) : isDigit(text[behind]))) behind++;
            return behind;
        }

        private static boolean isLetter(int sign) {
            return sign >= 'a' && sign <= 'z';
        }

        private static boolean isDigit(int sign) {
            return sign >= '0' && sign <= '9';
        }

        private static int tokenOf(byte[] text, int from, int behind) {
            if (!isDigit(text[from])) return wordOf(text, from, behind);
            if (behind - from > MOST_DIGITS) return UNKNOWN;
            int number = 0;
            for (int i = from; i < behind; i++) number = number * 10 + text[i] - '0';
            return FIRST_NUMBER + number;
        }

        private static int wordOf(byte[] text, int from, int behind) {
            int word = 0;
            int start = 0;
            for (int i = 0; i < WORDS.length(); i++) {
                if (WORDS.charAt(i) != ' ') continue;
                if (i - start == behind - from && isWordAt(start, text, from, behind)) return word;
                word++;
                start = i + 1;
            }
            return UNKNOWN;
        }

        private static boolean isWordAt(int start, byte[] text, int from, int behind) {
            for (int i = from; i < behind; i++) {
                if (WORDS.charAt(start + i - from) != text[i]) return false;
            }
            return true;
        }
    }

    /** THE TRACE of an act, with the number and the TIER of the thing that acts. */
    private static final class Trace {
        final int[] bodies = new int[MOST_TRACE];
        int size;
        int n;
        int a;
        boolean parted;

        void clear() {
            size = 0;
            parted = false;
        }

        void began(int body) {
            // Behind a parting by 0 nothing runs any more, so nothing more is traced.
            if (parted || size >= MOST_TRACE) return;
            bodies[size] = body;
            size++;
        }
    }

    /** What a BARREL does by its KIND; one of each KIND stands for all of it. */
    private static class Barrel {
        private static final int[] ABOVE = {0, 0, 0, 2, 0, 4};

        static boolean isUnder(int kind, int above) {
            if (kind < 0 || kind >= ABOVE.length) return false;
            return above == 0 || above == kind || above == ABOVE[kind];
        }

        int leak(int rise, int salt, int tide) {
            return 2 + rise;
        }

        int lift(int fill, int chalk, int number) {
            return fill < 99 ? 9 - fill / 11 : 0;
        }

        int rolls(Trace ran, int x) {
            ran.began(10);
            return x * 2 + 3 * ran.n;
        }

        int seeps(Trace ran, int x) {
            ran.began(11);
            return rolls(ran, x) - 4 * ran.a;
        }

        int hoops(Trace ran, int x) {
            ran.began(12);
            int by = ran.n + ran.a - 2;
            if (by == 0) {
                ran.parted = true;
                return 0;
            }
            return x / by;
        }

        int floods(Trace ran, int x) {
            ran.began(13);
            return seeps(ran, x) ^ hoops(ran, x);
        }
    }

    private static final class Vat extends Barrel {
        @Override
        int leak(int rise, int salt, int tide) {
            return 1;
        }

        @Override
        int lift(int fill, int chalk, int number) {
            return 0;
        }

        @Override
        int rolls(Trace ran, int x) {
            ran.began(20);
            return super.rolls(ran, x) + 16;
        }
    }

    private static class Tun extends Barrel {
        @Override
        int leak(int rise, int salt, int tide) {
            return 2 * super.leak(rise, salt, tide);
        }

        @Override
        int lift(int fill, int chalk, int number) {
            return super.lift(fill, chalk, number) / 2;
        }

        @Override
        int seeps(Trace ran, int x) {
            ran.began(30);
            return super.seeps(ran, x) ^ 17;
        }
    }

    private static final class Butt extends Tun {
        @Override
        int leak(int rise, int salt, int tide) {
            return Math.max(0, super.leak(rise, salt, tide) - 4);
        }

        @Override
        int lift(int fill, int chalk, int number) {
            return super.lift(fill, chalk, number) + chalk / 3;
        }

        @Override
        int rolls(Trace ran, int x) {
            ran.began(50);
            return super.rolls(ran, x - 7);
        }

        @Override
        int floods(Trace ran, int x) {
            ran.began(51);
            return super.floods(ran, x) + seeps(ran, ran.a);
        }
    }

    private static class Keg extends Barrel {
        @Override
        int leak(int rise, int salt, int tide) {
            return rise * salt;
        }

        @Override
        int lift(int fill, int chalk, int number) {
            return super.lift(fill, chalk, number) + chalk / 2;
        }

        @Override
        int hoops(Trace ran, int x) {
            ran.began(40);
            return super.hoops(ran, x) * 3;
        }
    }

    private static final class Cask extends Keg {
        @Override
        int leak(int rise, int salt, int tide) {
            return super.leak(rise, salt, tide) + tide / 4;
        }

        @Override
        int lift(int fill, int chalk, int number) {
            return Math.min(9, super.lift(fill, chalk, number) + number);
        }

        @Override
        int seeps(Trace ran, int x) {
            ran.began(60);
            return 0 - super.seeps(ran, x);
        }

        @Override
        int hoops(Trace ran, int x) {
            ran.began(61);
            return super.hoops(ran, x) - rolls(ran, ran.n);
        }
    }
}
