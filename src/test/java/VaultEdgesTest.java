/** Boundary sentences of part 1 of DOC.md, and of promises 1 to 11. */
public final class VaultEdgesTest extends Cellars {
    private static final Sentences S = new Sentences("VaultEdgesTest");

    public static void main(String[] args) {
        aNewObject();
        endsOfTides();
        waters();
        tiers();
        scores();
        numbersOfBarrels();
        setsOfBarrels();
        leaksByKind();
        leaksAboveStaked();
        floats();
        pays();
        may();
        barrelTold();
        ruleThatTells();
        stakes();
        bungs();
        leavings();
        worthOfStaked();
        barrelCall();
        barrelOfCall();
        changeCall();
        remakeCall();
        waterCall();
        tierCalls();
        endsCall();
        anewCall();
        stateCall();
        S.end();
    }

    private static void says(String words) {
        S.says(words);
    }

    private static void due(String call, int got, int want) {
        S.due(call, got, want);
    }

    private static void aNewObject() {
        says("No BARRELS, RULES, REPORTS; nothing is kept.");
        FloodCellar other = new FloodCellar();
        other.barrel(1, 9, 0, 0);
        tell(other, "barrel leave;");
        other.report(0, 0, 0, 0);
        other.keep();
        FloodCellar x = new FloodCellar();
        due("BARRELS beside another cellar", x.many(0), 0);
        due("a BARREL", x.barrelOf(0, 0), BAD);
        due("RULES beside another cellar", x.many(1), 0);
        due("REPORTS beside another cellar", x.many(3), 0);
        due("those that FIT no REPORT", x.lone(0), 500);
        due("kept beside another cellar", x.again(), NONE);
        due("the first BARREL", x.barrel(1, 9, 0, 0), 0);
        due("its WILL by no RULE", x.barrelOf(0, 9), 0);
    }

    private static void endsOfTides() {
        says("END is 1 to 16 (12 at first)");
        FloodCellar x = new FloodCellar();
        due("END at first", x.state(1), 12);
        for (int v : new int[] {0, 17, -1, MIN, MAX}) due("ends " + v, x.ends(v), BAD);
        due("the least", x.ends(1), 12);
        due("the most", x.ends(16), 1);
        due("END", x.state(1), 16);

        says("TIDE: the one that comes (0 at first); from END on it is OVER");
        FloodCellar y = new FloodCellar();
        y.ends(2);
        due("TIDE at first", y.state(0), 0);
        due("not OVER at first", y.state(3), 0);
        y.tide();
        due("not OVER ahead of the last", y.state(3), 0);
        y.tide();
        due("TIDE is END", y.state(0), 2);
        due("OVER at END", y.state(3), 1);
        FloodCellar last = atTide(15);
        due("not OVER at TIDE 15", last.state(3), 0);
        last.tide();
        due("OVER at TIDE 16", last.state(3), 1);
    }

    private static void waters() {
        says("4 times RISE (0 to 3), and SALT (0 to 3)");
        FloodCellar x = new FloodCellar();
        x.barrel(2, 0, 0, 0);
        x.barrel(4, 0, 0, 0);
        int[] byKeg = {0, 0, 0, 0, 0, 1, 2, 3, 0, 2, 4, 6, 0, 3, 6, 9};
        for (int v = 0; v < 16; v++) {
            x.water(0, v);
            due("RISE of " + v + " by a tun", x.barrelOf(0, 5), 4 + 2 * (v / 4));
            due("RISE and SALT of " + v + " by a keg", x.barrelOf(1, 5), byKeg[v]);
        }

        says("9 at first (behind TIDE 15: 0)");
        FloodCellar y = new FloodCellar();
        for (int t = 0; t < 16; t++) due("WATER of TIDE " + t, y.water(t, 15), 9);
        FloodCellar z = atTide(15);
        z.water(15, 14);
        due("WATER at TIDE 15", z.state(5), 14);
        z.barrel(2, 50, 0, 0);
        z.barrel(4, 50, 0, 0);
        due("a keg at TIDE 15 LEAKS", z.barrelOf(1, 5), 6);
        z.tide();
        due("WATER at TIDE 16", z.state(5), 0);
        due("a tun at TIDE 16 LEAKS", z.barrelOf(0, 5), 4);
        due("a keg at TIDE 16 LEAKS", z.barrelOf(1, 5), 0);
        tell(z, "barrel if tide = 16 and rise = 0 leave;");
        due("WILL at TIDE 16", z.barrelOf(0, 9), 1);
    }

    private static void tiers() {
        says("TIERS 0 to 5, one above the other, each have a STEP, a GRATE (0 to 9; 0 at first)");
        FloodCellar x = new FloodCellar();
        for (int f = 0; f < 6; f++) {
            due("STEP at first", x.tier(f, 0, 9 - f), 0);
            due("GRATE at first", x.tier(f, 1, f), 0);
        }
        for (int f = 0; f < 6; f++) {
            due("STEP of " + f, x.tierOf(f, 0), 9 - f);
            due("GRATE of " + f, x.tierOf(f, 1), f);
        }
        due("the most of a STEP", x.tier(5, 0, 9), 4);
        due("more", x.tier(5, 0, 10), BAD);
        due("the least", x.tier(5, 0, 0), 9);
        due("less", x.tier(5, 0, -1), BAD);
        due("the most of a GRATE", x.tier(5, 1, 9), 5);
        due("more", x.tier(5, 1, 10), BAD);
        due("the least", x.tier(5, 1, 0), 9);
        due("less", x.tier(5, 1, -1), BAD);
    }

    private static void scores() {
        says("SCORE: what TIDES were WORTH (0 at first)");
        FloodCellar x = new FloodCellar();
        due("at first", x.state(2), 0);
        x.barrel(1, 90, 0, 0);
        x.on(16);
        x.best(4);
        x.game(4);
        x.prove(2);
        x.times(9, 0);
        due("behind what was but asked", x.state(2), 0);
        due("a TIDE", x.tide(), 16);
        due("of one", x.state(2), 16);
        due("a LOT", x.lot(), 3);
        due("of two", x.state(2), 19);
        due("an ACT", go(x, 0), 3);
        due("of three", x.state(2), 22);
        due("once more below", x.goAll(3, 0, 2), -12);
        due("of four, behind a place outside", x.state(2), 25);
    }

    private static void numbersOfBarrels() {
        says("BARRELS, 6 at most, numbered as they come");
        FloodCellar x = new FloodCellar();
        for (int k = 0; k < 6; k++) due("number " + k, x.barrel(5 - k % 5, k, 0, 0), k);
        due("a seventh", x.barrel(1, 0, 0, 0), FULL);
        due("how many", x.many(0), 6);
        for (int k = 0; k < 6; k++) due("FILL of " + k, x.barrelOf(k, 1), k);

        says("STAKED or not (at first)");
        for (int k = 0; k < 6; k++) due("STAKED " + k, x.barrelOf(k, 4), 0);
        FloodCellar y = new FloodCellar();
        y.keep();
        y.barrel(1, 9, 0, 0);
        y.change(0, 4, 1);
        y.again();
        y.barrel(1, 9, 0, 0);
        due("one that comes where a STAKED one was", y.barrelOf(0, 4), 0);
    }

    private static void setsOfBarrels() {
        says("Sets are told by bits.");
        FloodCellar x = new FloodCellar();
        due("none", x.state(4), 0);
        for (int k = 0; k < 6; k++) x.barrel(1, 9, 0, k);
        x.change(5, 4, 1);
        due("the last alone", x.state(4), 32);
        x.change(0, 4, 1);
        due("the first, too", x.state(4), 33);
        for (int k = 1; k < 5; k++) x.change(k, 4, 1);
        due("all", x.state(4), 63);
    }

    private static void leaksByKind() {
        says("tun: twice a barrel");
        due("RISE 0", leak(2, 3, 0), 4);
        due("RISE 3", leak(2, 15, 0), 10);
        says("butt: as tun, less 4 (0 at least)");
        due("RISE 0", leak(3, 3, 0), 0);
        due("RISE 1", leak(3, 4, 0), 2);
        due("RISE 3", leak(3, 12, 0), 6);
        says("keg: RISE times SALT");
        due("RISE 0", leak(4, 3, 0), 0);
        due("SALT 0", leak(4, 12, 0), 0);
        due("RISE 3, SALT 3", leak(4, 15, 0), 9);
        says("cask: as keg, and a fourth of TIDE");
        int[] fourths = {0, 0, 0, 0, 1, 1, 1, 1, 2, 2, 2, 2, 3, 3, 3, 3};
        for (int t = 0; t < 16; t++) due("TIDE " + t, leak(5, 15, t), 9 + fourths[t]);
        due("TIDE 16, of no WATER", leak(5, 15, 16), 4);
        says("To that the GRATE of its TIER is added");
        int[] most = {10, 19, 15, 18, 18};
        for (int kind = 1; kind <= 5; kind++) {
            FloodCellar x = new FloodCellar();
            x.water(0, 15);
            x.tier(2, 1, 9);
            x.barrel(kind, 0, 0, 2);
            due("KIND " + kind + ", GRATE 9", x.barrelOf(0, 5), most[kind - 1]);
            x.change(0, 3, 1);
            due("KIND " + kind + ", GRATE 0", x.barrelOf(0, 5), most[kind - 1] - 9);
        }
    }

    private static int leak(int kind, int water, int tide) {
        FloodCellar x = atTide(tide);
        allWater(x, water);
        x.barrel(kind, 0, 0, 0);
        return x.barrelOf(0, 5);
    }

    private static void leaksAboveStaked() {
        says("2 taken for each that is STAKED in the TIER of 1 less (0 at least)");
        FloodCellar x = new FloodCellar();
        allWater(x, 0);
        x.barrel(2, 50, 0, 1);
        for (int k = 1; k < 6; k++) x.barrel(1, 50, 0, 0);
        due("a tun above none that is STAKED", x.barrelOf(0, 5), 4);
        int[] less = {2, 0, 0, 0, 0};
        for (int k = 1; k < 6; k++) {
            x.change(k, 4, 1);
            due("a tun above " + k, x.barrelOf(0, 5), less[k - 1]);
        }
        x.water(0, 15);
        x.tier(1, 1, 9);
        due("a tun of GRATE 9 above five", x.barrelOf(0, 5), 9);
        x.remake(0, 1);
        due("a vat of GRATE 9 above five", x.barrelOf(0, 5), 0);
        x.change(5, 4, 0);
        due("a vat of GRATE 9 above four", x.barrelOf(0, 5), 2);

        FloodCellar y = new FloodCellar();
        y.barrel(2, 50, 0, 0);
        y.barrel(1, 50, 0, 5);
        y.change(1, 4, 1);
        due("TIER 5 is not below TIER 0", y.barrelOf(0, 5), 8);
        y.change(1, 3, 0);
        due("one of its own TIER", y.barrelOf(0, 5), 8);
        y.change(1, 3, 1);
        due("one of the TIER above", y.barrelOf(0, 5), 8);
        y.change(0, 3, 3);
        due("one two TIERS below", y.barrelOf(0, 5), 8);
        y.change(0, 3, 2);
        due("one just below", y.barrelOf(0, 5), 6);
        y.change(0, 4, 1);
        due("one just below, itself STAKED", y.barrelOf(0, 5), 6);
        y.change(0, 3, 5);
        y.change(1, 3, 4);
        due("TIER 4 below TIER 5", y.barrelOf(0, 5), 6);
        y.change(0, 3, 4);
        y.change(1, 3, 5);
        y.remake(1, 2);
        due("above the first BARREL", y.barrelOf(1, 5), 6);
    }

    private static int lift(int kind, int fill, int chalk, int number) {
        FloodCellar x = new FloodCellar();
        for (int k = 0; k < number; k++) x.barrel(1, 0, 0, 0);
        x.barrel(kind, fill, chalk, 0);
        return x.barrelOf(number, 6);
    }

    private static void floats() {
        says("barrel: 9, less an eleventh of FILL (0 at least)");
        int[][] byFill = {{0, 9}, {10, 9}, {11, 8}, {21, 8}, {22, 7}, {87, 2}, {88, 1}, {98, 1}, {99, 0}};
        for (int[] f : byFill) due("FILL " + f[0] + " by a keg", lift(4, f[0], 0, 0), f[1]);
        says("tun: half of a barrel's.");
        int[][] halves = {{0, 4}, {10, 4}, {11, 4}, {22, 3}, {88, 0}, {99, 0}};
        for (int[] f : halves) due("FILL " + f[0], lift(2, f[0], 9, 5), f[1]);
        says("butt: as tun, and a third of CHALK.");
        int[][] thirds = {{0, 0}, {2, 0}, {3, 1}, {5, 1}, {6, 2}, {8, 2}, {9, 3}};
        for (int[] c : thirds) due("CHALK " + c[0], lift(3, 99, c[0], 5), c[1]);
        due("the most", lift(3, 0, 9, 5), 7);
        says("keg: as barrel, and half of CHALK.");
        int[][] half = {{0, 0}, {1, 0}, {2, 1}, {7, 3}, {8, 4}, {9, 4}};
        for (int[] c : half) due("CHALK " + c[0], lift(4, 99, c[0], 5), c[1]);
        due("no 9 at most", lift(4, 0, 9, 0), 13);
        says("cask: as keg, and its number, 9 at most.");
        due("number 0", lift(5, 99, 0, 0), 0);
        due("number 5", lift(5, 99, 0, 5), 5);
        due("8", lift(5, 99, 9, 4), 8);
        due("just 9", lift(5, 99, 9, 5), 9);
        due("10 would be more", lift(5, 98, 9, 5), 9);
        due("the most would be 18", lift(5, 0, 9, 5), 9);
        due("a vat FLOATS not at all", lift(1, 0, 9, 5), 0);
    }

    private static int pay(int kind, int fill, int chalk, int water, int step) {
        FloodCellar x = new FloodCellar();
        x.water(0, water);
        x.tier(0, 0, step);
        x.barrel(kind, fill, chalk, 0);
        return x.barrelOf(0, 7);
    }

    private static void pays() {
        says("3, and a ninth of FILL");
        int[][] ninths = {{1, 3}, {8, 3}, {9, 4}, {17, 4}, {18, 5}, {89, 12}, {90, 13}, {98, 13}, {99, 14}};
        for (int[] f : ninths) due("FILL " + f[0], pay(1, f[0], 0, 0, 0), f[1]);
        says("FILL is above 0");
        due("FILL 0", pay(1, 0, 0, 0, 9), 0);
        due("FILL 1", pay(1, 1, 0, 0, 9), 3);
        says("what it FLOATS and RISE together are no more than 4 and the STEP of its TIER; else 0");
        due("4 and 0, STEP 0", pay(4, 99, 8, 0, 0), 14);
        due("4 and 1, STEP 0", pay(4, 99, 8, 4, 0), 0);
        due("4 and 1, STEP 1", pay(4, 99, 8, 4, 1), 14);
        due("0 and 3, STEP 0", pay(1, 99, 9, 15, 0), 14);
        due("2 and 3, STEP 0", pay(4, 99, 4, 12, 0), 0);
        due("2 and 3 and SALT, STEP 1", pay(4, 99, 4, 15, 1), 14);
        due("13 and 0, STEP 9", pay(4, 10, 9, 3, 9), 4);
        due("13 and 1, STEP 9", pay(4, 10, 9, 4, 9), 0);
        due("13 and 0, STEP 8", pay(4, 10, 9, 0, 8), 0);
        says("if it is not STAKED");
        FloodCellar x = new FloodCellar();
        x.barrel(1, 99, 0, 0);
        x.change(0, 4, 1);
        due("STAKED", x.barrelOf(0, 7), 0);
        x.change(0, 4, 0);
        due("not STAKED", x.barrelOf(0, 7), 14);
    }

    private static void may() {
        says("MAY be staked: its WILL is to stake, and it PAYS more than 0.");
        FloodCellar x = new FloodCellar();
        x.barrel(1, 1, 0, 0);
        due("both", x.barrelOf(0, 8), 1);
        x.change(0, 1, 0);
        due("WILL alone", x.barrelOf(0, 8), 0);
        x.change(0, 1, 1);
        tell(x, "vat leave;");
        due("PAYS alone, to leave", x.barrelOf(0, 8), 0);
        tell(x, "vat bung;");
        due("PAYS alone, to bung", x.barrelOf(0, 8), 0);
        tell(x, "vat stake;");
        due("told to stake", x.barrelOf(0, 8), 1);
        x.change(0, 4, 1);
        due("STAKED", x.barrelOf(0, 8), 0);
        due("none, when it is OVER, is barred", over().barrelOf(0, 8), 1);
    }

    private static FloodCellar over() {
        FloodCellar x = new FloodCellar();
        x.ends(1);
        x.tide();
        x.barrel(1, 90, 0, 0);
        return x;
    }

    private static void barrelTold() {
        says("If a BARREL is told, and is not STAKED, it does as its WILL is");
        FloodCellar x = new FloodCellar();
        x.barrel(1, 50, 3, 0);
        x.barrel(1, 50, 3, 0);
        tell(x, "vat bung;");
        x.change(0, 4, 1);
        due("STAKED and told", go(x, 1), 1);
        due("its CHALK", x.barrelOf(0, 2), 3);
        due("none is told", go(x, 0), 1);
        due("CHALK of the other one", x.barrelOf(1, 2), 3);
        due("the last is told", go(x, 2), 1);
        due("its CHALK then", x.barrelOf(1, 2), 5);
        due("one more than there are is left out", go(x, 3), 0);
        due("so three TIDES went by", x.state(0), 3);
    }

    private static void ruleThatTells() {
        says("stake (if no RULE tells)");
        due("no RULES", will(""), 0);
        due("one of another KIND", will("vat leave;"), 0);
        due("its condition doesn't hold", will("butt if fill > 50 leave;"), 0);
        says("the first of THE RULES whose KIND is its or above it, and whose condition holds, tells it");
        due("its KIND", will("butt leave;"), 1);
        due("just above", will("tun leave;"), 1);
        due("above that", will("barrel leave;"), 1);
        due("beside it", will("keg leave;"), 0);
        due("beside it, below another", will("cask leave;"), 0);
        due("the first of two", will("barrel bung;butt leave;"), 2);
        due("the first that holds", will("butt if fill=49 bung;tun if fill=50 leave;barrel bung;"), 1);
        due("stake first", will("tun stake;barrel leave;"), 0);
        due("the eighth", will("vat bung;vat bung;vat bung;vat bung;vat bung;vat bung;vat bung;tun leave;"), 1);
        FloodCellar x = new FloodCellar();
        for (int kind = 1; kind <= 5; kind++) x.barrel(kind, 50, 0, 0);
        tell(x, "butt bung;cask leave;");
        due("below it doesn't tell a tun", x.barrelOf(1, 9), 0);
        due("below it doesn't tell a keg", x.barrelOf(3, 9), 0);
    }

    private static int will(String text) {
        FloodCellar x = new FloodCellar();
        x.barrel(3, 50, 0, 0);
        tell(x, text);
        return x.barrelOf(0, 9);
    }

    private static void stakes() {
        says("stake: WORTH what it PAYS; if that is more than 0, it is STAKED.");
        FloodCellar x = new FloodCellar();
        x.barrel(1, 1, 0, 0);
        x.barrel(1, 0, 0, 0);
        x.barrel(4, 50, 9, 0);
        due("FILL 0", go(x, 2), 0);
        due("none is STAKED", x.state(4), 0);
        due("it FLOATS too much", go(x, 3), 0);
        due("none is STAKED", x.state(4), 0);
        x.change(0, 1, 1);
        due("FILL 1", go(x, 1), 3);
        due("it is STAKED", x.state(4), 1);
    }

    private static FloodCellar bunged(int fill, int chalk, int water) {
        FloodCellar x = new FloodCellar();
        x.water(0, water);
        x.barrel(1, fill, chalk, 0);
        tell(x, "vat bung;");
        return x;
    }

    private static void bungs() {
        says("CHALK is 2 more (9 at most)");
        int[][] chalks = {{0, 2}, {6, 8}, {7, 9}, {8, 9}, {9, 9}};
        for (int[] c : chalks) {
            FloodCellar x = bunged(50, c[0], 0);
            go(x, 1);
            due("CHALK " + c[0], x.barrelOf(0, 2), c[1]);
        }
        says("FILL 3 more (99 at most)");
        // Behind the bung a vat leaks 1.
        int[][] fills = {{0, 2}, {95, 97}, {96, 98}, {97, 98}, {98, 98}, {99, 98}};
        for (int[] f : fills) {
            FloodCellar x = bunged(f[0], 0, 0);
            go(x, 1);
            due("FILL " + f[0], x.barrelOf(0, 1), f[1]);
        }
        says("WORTH 1, if SALT is 0.");
        for (int v = 0; v < 16; v++) {
            FloodCellar x = bunged(50, 4, v);
            due("WATER " + v, go(x, 1), v % 4 == 0 ? 1 : 0);
            due("SCORE by WATER " + v, x.state(2), v % 4 == 0 ? 1 : 0);
            due("CHALK by WATER " + v, x.barrelOf(0, 2), 6);
            due("FILL by WATER " + v, x.barrelOf(0, 1), 52);
            due("STAKED by WATER " + v, x.barrelOf(0, 4), 0);
        }
        says("leave: nothing.");
        FloodCellar y = bunged(50, 4, 0);
        tell(y, "vat leave;");
        due("WORTH", go(y, 1), 0);
        due("CHALK", y.barrelOf(0, 2), 4);
        due("FILL", y.barrelOf(0, 1), 49);
        due("STAKED", y.state(4), 0);
    }

    private static int fillBehind(int kind, int fill, int grate, int staked) {
        FloodCellar x = new FloodCellar();
        allWater(x, 0);
        x.tier(0, 1, grate);
        x.barrel(kind, fill, 0, 0);
        x.change(0, 4, staked);
        go(x, 0);
        return x.barrelOf(0, 1);
    }

    private static void leavings() {
        says("FILL of each is less by what it LEAKS, by a third of that, if it is STAKED (0 at least; by all as (2) begins)");
        due("a tun of 5 LEAKS 4", fillBehind(2, 5, 0, 0), 1);
        due("a tun of 4", fillBehind(2, 4, 0, 0), 0);
        due("a tun of 3", fillBehind(2, 3, 0, 0), 0);
        due("a tun of 0", fillBehind(2, 0, 9, 0), 0);
        int[] thirds = {0, 0, 1, 1, 1, 2, 2, 2, 3, 3};
        for (int g = 0; g < 10; g++) due("a STAKED vat of 50, GRATE " + g, fillBehind(1, 50, g, 1), 50 - thirds[g]);
        due("a STAKED tun of 5, GRATE 9", fillBehind(2, 5, 9, 1), 1);
        due("a STAKED tun of 4, GRATE 9", fillBehind(2, 4, 9, 1), 0);
        due("a STAKED tun of 3, GRATE 9", fillBehind(2, 3, 9, 1), 0);

        // Who is STAKED by (1) leaks a third and holds the TIER above in this TIDE already.
        FloodCellar x = new FloodCellar();
        allWater(x, 0);
        x.tier(0, 1, 9);
        x.barrel(2, 50, 0, 1);
        x.barrel(1, 50, 0, 0);
        go(x, 2);
        due("STAKED just now", x.barrelOf(1, 1), 47);
        due("above one STAKED just now", x.barrelOf(0, 1), 48);

        says("TIDE is 1 more.");
        FloodCellar y = new FloodCellar();
        y.water(0, 0);
        y.water(1, 15);
        y.barrel(2, 50, 0, 0);
        go(y, 0);
        due("LEAKS by WATER of the TIDE that went by", y.barrelOf(0, 1), 46);
        due("TIDE", y.state(0), 1);
        go(y, 0);
        due("LEAKS by WATER of the next", y.barrelOf(0, 1), 36);
        FloodCellar z = atTide(3);
        allWater(z, 0);
        z.barrel(5, 50, 0, 0);
        go(z, 0);
        due("a cask in TIDE 3", z.barrelOf(0, 1), 50);
        go(z, 0);
        due("a cask in TIDE 4", z.barrelOf(0, 1), 49);
    }

    private static void worthOfStaked() {
        says("then each that is STAKED is WORTH a thirtieth of its FILL more");
        int[][] worths = {{0, 0}, {29, 0}, {30, 1}, {59, 1}, {60, 2}, {89, 2}, {90, 3}, {99, 3}};
        for (int[] w : worths) {
            FloodCellar x = new FloodCellar();
            x.barrel(1, w[0], 0, 0);
            x.change(0, 4, 1);
            due("FILL " + w[0], go(x, 0), w[1]);
            x.change(0, 4, 0);
            due("FILL " + w[0] + ", not STAKED", go(x, 0), 0);
        }
        FloodCellar y = new FloodCellar();
        y.tier(0, 1, 9);
        y.barrel(1, 32, 0, 0);
        y.barrel(1, 33, 0, 1);
        y.change(0, 4, 1);
        y.change(1, 4, 1);
        due("each alone, of FILL behind leaking", go(y, 0), 1);
        due("29 and 33", y.barrelOf(0, 1) * 100 + y.barrelOf(1, 1), 2933);
    }

    private static void barrelCall() {
        says("A BARREL of a KIND 1 to 5: its number. BAD; FULL.");
        FloodCellar x = new FloodCellar();
        int[][] wrong = {{0, 5, 5, 5}, {6, 5, 5, 5}, {-1, 5, 5, 5}, {MIN, 5, 5, 5}, {MAX, 5, 5, 5}, {1, -1, 5, 5},
            {1, 100, 5, 5}, {1, MIN, 5, 5}, {1, MAX, 5, 5}, {1, 5, -1, 5}, {1, 5, 10, 5}, {1, 5, MIN, 5},
            {1, 5, MAX, 5}, {1, 5, 5, -1}, {1, 5, 5, 6}, {1, 5, 5, MIN}, {1, 5, 5, MAX}};
        for (int[] w : wrong) due("barrel " + java.util.Arrays.toString(w), x.barrel(w[0], w[1], w[2], w[3]), BAD);
        due("none came", x.many(0), 0);
        due("the least of each", x.barrel(1, 0, 0, 0), 0);
        due("the most of each", x.barrel(5, 99, 9, 5), 1);
        for (int k = 2; k < 6; k++) due("another", x.barrel(k - 1, 1, 1, 1), k);
        due("one too many", x.barrel(5, 99, 9, 5), FULL);
        for (int[] w : wrong) due("BAD ahead of FULL", x.barrel(w[0], w[1], w[2], w[3]), BAD);
        due("six are there", x.many(0), 6);
    }

    private static void barrelOfCall() {
        says("9 WILL as all is now (0 stake, 1 leave, 2 bung). BAD.");
        FloodCellar x = new FloodCellar();
        due("no BARRELS", x.barrelOf(0, 0), BAD);
        x.barrel(1, 5, 5, 5);
        due("what 0", x.barrelOf(0, 0), 1);
        due("what 9", x.barrelOf(0, 9), 0);
        for (int what : new int[] {-1, 10, MIN, MAX}) due("what " + what, x.barrelOf(0, what), BAD);
        for (int k : new int[] {-1, 1, 5, 6, MIN, MAX}) due("BARREL " + k, x.barrelOf(k, 0), BAD);
        tell(x, "vat if fill=5 leave;vat bung;");
        due("WILL by FILL 5", x.barrelOf(0, 9), 1);
        x.change(0, 1, 6);
        due("WILL by FILL 6", x.barrelOf(0, 9), 2);
        x.change(0, 4, 1);
        due("WILL though STAKED", x.barrelOf(0, 9), 2);
        says("5 what it LEAKS now (STAKED or not)");
        x.tier(5, 1, 9);
        due("STAKED", x.barrelOf(0, 5), 10);
        x.change(0, 4, 0);
        due("not STAKED", x.barrelOf(0, 5), 10);
    }

    private static void changeCall() {
        says("FILL (what 1), CHALK (2), TIER (3), STAKED (4: 0, 1) of a BARREL becomes v: what it was. BAD.");
        FloodCellar x = new FloodCellar();
        due("no BARRELS", x.change(0, 1, 1), BAD);
        x.barrel(1, 5, 5, 5);
        int[] was = {0, 5, 5, 5, 0};
        int[] most = {0, 99, 9, 5, 1};
        for (int what = 1; what <= 4; what++) {
            due("the most of " + what, x.change(0, what, most[what]), was[what]);
            for (int v : new int[] {-1, most[what] + 1, MIN, MAX}) due("what " + what + ", " + v, x.change(0, what, v), BAD);
            due("it stays", x.barrelOf(0, what), most[what]);
            due("the least of " + what, x.change(0, what, 0), most[what]);
            due("it is so", x.barrelOf(0, what), 0);
        }
        FloodCellar six = new FloodCellar();
        for (int k = 0; k < 6; k++) six.barrel(1, 10 * k, k, 5 - k);
        for (int k = 0; k < 6; k++) {
            due("FILL of " + k, six.change(k, 1, 99), 10 * k);
            due("CHALK of " + k, six.change(k, 2, 9), k);
            due("TIER of " + k, six.change(k, 3, 0), 5 - k);
            due("STAKED of " + k, six.change(k, 4, 1), 0);
            due("STAKED of " + k + " as it is", six.change(k, 4, 1), 1);
        }
        for (int k = 0; k < 6; k++) due("not STAKED of " + k, six.change(k, 4, 0), 1);
        for (int what : new int[] {-1, 0, 5, 9, MIN, MAX}) due("what " + what, x.change(0, what, 1), BAD);
        due("KIND stays", x.barrelOf(0, 0), 1);
        for (int k : new int[] {-1, 1, 6, MIN, MAX}) due("BARREL " + k, x.change(k, 4, 1), BAD);
        due("none is STAKED", x.state(4), 0);
    }

    private static void remakeCall() {
        says("A BARREL becomes one of another KIND (1 to 5): the KIND that it was. BAD.");
        FloodCellar x = new FloodCellar();
        due("no BARRELS", x.remake(0, 1), BAD);
        x.barrel(3, 5, 6, 2);
        x.change(0, 4, 1);
        due("the least", x.remake(0, 1), 3);
        due("the most", x.remake(0, 5), 1);
        for (int kind : new int[] {0, 6, -1, MIN, MAX}) due("KIND " + kind, x.remake(0, kind), BAD);
        for (int k : new int[] {-1, 1, 6, MIN, MAX}) due("BARREL " + k, x.remake(k, 2), BAD);
        int[] all = {5, 5, 6, 2, 1};
        for (int what = 0; what < 5; what++) due("barrelOf " + what, x.barrelOf(0, what), all[what]);
    }

    private static void waterCall() {
        says("WATER of a TIDE (0 to 15) becomes v (0 to 15): what it was. BAD.");
        FloodCellar x = new FloodCellar();
        due("the first TIDE, the most", x.water(0, 15), 9);
        due("the last TIDE, the least", x.water(15, 0), 9);
        for (int t : new int[] {-1, 16, MIN, MAX}) due("TIDE " + t, x.water(t, 1), BAD);
        for (int v : new int[] {-1, 16, MIN, MAX}) due("WATER " + v, x.water(0, v), BAD);
        due("WATER of TIDE 0", x.water(0, 1), 15);
        due("WATER of TIDE 15", x.water(15, 1), 0);
        due("of one gone by, too", atTide(16).water(15, 1), 9);
    }

    private static void tierCalls() {
        says("The STEP of a TIER (what 0), its GRATE (1) becomes v: what it was. BAD.");
        FloodCellar x = new FloodCellar();
        for (int f : new int[] {-1, 6, MIN, MAX}) due("TIER " + f, x.tier(f, 0, 1), BAD);
        for (int what : new int[] {-1, 2, MIN, MAX}) due("what " + what, x.tier(0, what, 1), BAD);
        for (int v : new int[] {-1, 10, MIN, MAX}) {
            due("STEP " + v, x.tier(0, 0, v), BAD);
            due("GRATE " + v, x.tier(0, 1, v), BAD);
        }
        for (int f = 0; f < 6; f++) due("STEP and GRATE stay", x.tierOf(f, 0) + x.tierOf(f, 1), 0);
        due("STEP", x.tier(0, 0, 9), 0);
        due("GRATE", x.tier(0, 1, 8), 0);
        due("STEP once more", x.tier(0, 0, 0), 9);
        due("GRATE once more", x.tier(0, 1, 0), 8);

        says("Of a TIER: what = 0 STEP, 1 GRATE. BAD.");
        x.tier(5, 0, 3);
        x.tier(5, 1, 4);
        due("STEP", x.tierOf(5, 0), 3);
        due("GRATE", x.tierOf(5, 1), 4);
        for (int f : new int[] {-1, 6, MIN, MAX}) due("TIER " + f, x.tierOf(f, 0), BAD);
        for (int what : new int[] {-1, 2, MIN, MAX}) due("what " + what, x.tierOf(5, what), BAD);
    }

    private static void endsCall() {
        says("END becomes v: what it was. BAD; STATE: v is below TIDE.");
        FloodCellar x = new FloodCellar();
        for (int t = 0; t < 5; t++) x.tide();
        due("just below TIDE", x.ends(4), STATE);
        due("1", x.ends(1), STATE);
        due("BAD ahead of STATE", x.ends(0), BAD);
        due("far below", x.ends(MIN), BAD);
        due("END stays", x.state(1), 12);
        due("as TIDE", x.ends(5), 12);
        due("then it is OVER", x.state(3), 1);
        due("just above", x.ends(6), 5);
        due("then it isn't", x.state(3), 0);
        FloodCellar y = atTide(16);
        due("behind TIDE 15", y.ends(15), STATE);
        due("as TIDE 16", y.ends(16), 16);
        y.anew();
        due("anew", y.ends(1), 16);
    }

    private static void anewCall() {
        says("TIDE is 0 again, SCORE 0, none is STAKED (FILL, CHALK stay): what TIDE was.");
        FloodCellar x = new FloodCellar();
        due("at TIDE 0", x.anew(), 0);
        x.ends(2);
        x.tier(1, 1, 2);
        x.barrel(1, 90, 7, 1);
        x.barrel(2, 80, 6, 1);
        x.report(0, 0, 0, 99);
        x.seed(5);
        tell(x, "tun leave;");
        x.tide();
        x.tide();
        // The vat, STAKED, leaks a third of 3; the tun leaks 8 and 2.
        due("when it is OVER", x.anew(), 2);
        due("TIDE", x.state(0), 0);
        due("END stays", x.state(1), 2);
        due("SCORE", x.state(2), 0);
        due("not OVER", x.state(3), 0);
        due("STAKED", x.state(4), 0);
        due("FILL of the vat", x.barrelOf(0, 1), 88);
        due("FILL of the tun", x.barrelOf(1, 1), 60);
        due("CHALK", x.barrelOf(0, 2), 7);
        due("GRATE stays", x.tierOf(1, 1), 2);
        due("RULES stay", x.many(1), 1);
        due("REPORTS stay", x.many(3), 1);
        due("z stays", x.seed(1), 5);
        due("TIDE 0 goes by", x.tide(), 3 + 9 + 2);
        due("again", x.anew(), 1);
    }

    private static void stateCall() {
        says("What = 0 TIDE, 1 END, 2 SCORE, 3 1 if it is OVER, else 0, 4 BARRELS that are STAKED, as a set, 5 WATER of TIDE, "
            + "6 FILL of all together. BAD.");
        FloodCellar x = new FloodCellar();
        due("FILL of none", x.state(6), 0);
        for (int k = 0; k < 6; k++) x.barrel(1, 99, 0, 0);
        due("FILL of six", x.state(6), 594);
        x.water(0, 0);
        due("WATER", x.state(5), 0);
        for (int what : new int[] {-1, 7, 8, MIN, MAX}) due("what " + what, x.state(what), BAD);
    }
}
