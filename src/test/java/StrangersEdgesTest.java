/** Boundary sentences of REPORTS, LONE BARRELS, LIAR and LOT in DOC.md, and of promises 30 to 36. */
public final class StrangersEdgesTest extends Cellars {
    private static final Sentences S = new Sentences("StrangersEdgesTest");

    public static void main(String[] args) {
        reportsOfFill();
        reportsOfPaid();
        reportCall();
        howManyReports();
        tidesOfReports();
        loneBarrels();
        loneKnowsNothing();
        loneCall();
        liar();
        liarCall();
        forgetCall();
        seedCall();
        lot();
        lotCall();
        times();
        timesCall();
        S.end();
    }

    private static void says(String words) {
        S.says(words);
    }

    private static void due(String call, int got, int want) {
        S.due(call, got, want);
    }

    /** How many LONE BARRELS FIT one REPORT, all WATER being v. */
    private static int fit(int v, int k, int asked, int least, int most) {
        FloodCellar x = new FloodCellar();
        allWater(x, v);
        due("the first REPORT", x.report(k, asked, least, most), 0);
        return x.lone(0);
    }

    private static void reportsOfFill() {
        says("FILL was (asked 0; 0 to 99)");
        due("the least FILL at first", fit(0, 0, 0, 0, 9), 50);
        due("less than that", fit(0, 0, 0, 0, 8), 0);
        due("the most FILL at first", fit(0, 0, 0, 99, 99), 50);
        due("none between", fit(0, 0, 0, 90, 98), 0);
        due("LEAST itself", fit(0, 0, 0, 19, 28), 50);
        due("MOST itself", fit(0, 0, 0, 10, 19), 50);
        due("both", fit(0, 0, 0, 9, 99), 500);
        // By RISE 0 in TIDES 0 to 14 vats leak 15, tuns 60, casks 21; butts and kegs nothing.
        due("run dry behind the last: vats of 9, tuns of up to 59, casks of 9, 19", fit(0, 15, 0, 0, 0), 10 + 60 + 20);
        due("4 is left: vats of 19", fit(0, 15, 0, 4, 4), 10);
        due("99 is left: butts, kegs", fit(0, 15, 0, 99, 99), 20);
        due("by RISE 3, SALT 3 a tun leaks 10, so 9 runs dry in one", fit(15, 1, 0, 0, 0), 10 + 10 + 10);
        due("and kegs of 9 leak just 9, and those of 19 leave 10", fit(15, 1, 0, 10, 10), 20);
    }

    private static void reportsOfPaid() {
        says("or in how many TIDES it would have PAID more than 0, ahead of leaking (1; 0 to 16)");
        due("behind none", fit(12, 0, 1, 0, 0), 500);
        due("behind none it can't have PAID", fit(12, 0, 1, 1, 16), 0);
        // RISE 3: vats; tuns from 69 on; butts of 89, 99 by CHALK to 5, of 69, 79 to 2; kegs, casks of 99 to 3, of 89 to 1.
        due("in one, by RISE 3", fit(12, 1, 1, 1, 1), 100 + 40 + 18 + 6 + 6);
        due("in none of one, by RISE 3", fit(12, 1, 1, 0, 0), 500 - 170);
        // Kegs lose nothing by SALT 0; casks do, and of less than 88 they FLOAT too much.
        due("in each of 15: vats from 19 on, kegs", fit(12, 15, 1, 15, 15), 90 + 6);
        due("in one more than there were", fit(12, 15, 1, 16, 16), 0);
        due("more than there were", fit(0, 15, 1, 16, 16), 0);
        // A vat of 9 PAYS ahead of leaking while FILL is 9 to 1, and no more when it is 0.
        FloodCellar x = new FloodCellar();
        x.report(0, 0, 9, 9);
        x.report(9, 1, 9, 9);
        x.report(10, 1, 9, 9);
        due("a vat of 9", x.lone(1), 1);
        due("by each CHALK", x.lone(0), 10);
        x.report(10, 1, 10, 10);
        due("not in the tenth", x.lone(0), 0);
    }

    private static void reportCall() {
        says("A REPORT: its number. BAD: also MOST below LEAST; FULL.");
        FloodCellar x = new FloodCellar();
        int[][] wrong = {{-1, 0, 5, 9}, {16, 0, 5, 9}, {MIN, 0, 5, 9}, {MAX, 0, 5, 9}, {3, -1, 5, 9}, {3, 2, 5, 9},
            {3, MIN, 5, 9}, {3, MAX, 5, 9}, {3, 0, -1, 9}, {3, 0, 100, 100}, {3, 0, MIN, 9}, {3, 0, 5, 100}, {3, 0, 5, MAX},
            {3, 0, 9, 8}, {3, 0, 99, 0}, {3, 0, 5, -1}, {3, 0, 5, MIN}, {3, 0, MAX, MIN}, {3, 1, -1, 9}, {3, 1, 17, 17},
            {3, 1, 5, 17}, {3, 1, 5, 99}, {3, 1, 5, 4}, {3, 1, 16, 0}, {3, 1, 5, MAX}, {3, 1, MIN, MAX}};
        for (int[] w : wrong) due("report " + java.util.Arrays.toString(w), x.report(w[0], w[1], w[2], w[3]), BAD);
        due("none came", x.many(3), 0);
        int[][] right = {{0, 0, 0, 0}, {15, 0, 99, 99}, {15, 0, 0, 99}, {0, 1, 0, 0}, {15, 1, 16, 16}, {15, 1, 0, 16}};
        for (int i = 0; i < 6; i++) due("report " + i, x.report(right[i][0], right[i][1], right[i][2], right[i][3]), i);
        due("one too many", x.report(0, 0, 0, 0), FULL);
        for (int[] w : wrong) due("BAD ahead of FULL", x.report(w[0], w[1], w[2], w[3]), BAD);
        due("six are there", x.many(3), 6);
    }

    private static void howManyReports() {
        says("A REPORT (6 at most)");
        FloodCellar x = new FloodCellar();
        for (int i = 0; i < 5; i++) x.report(0, 0, 0, 99);
        due("all FIT five", x.lone(0), 500);
        due("the sixth", x.report(0, 0, 9, 9), 5);
        due("the sixth counts", x.lone(0), 50);
        due("the seventh", x.report(0, 0, 19, 19), FULL);
        due("the seventh doesn't count", x.lone(0), 50);
        x.forget();
        due("the first again", x.report(0, 0, 19, 19), 0);
        due("those before count no more", x.lone(3), 19);
    }

    private static void tidesOfReports() {
        says("behind k TIDES (0 to 15; from TIDE 0 on)");
        FloodCellar x = new FloodCellar();
        allWater(x, 0);
        x.water(14, 15);
        x.report(15, 0, 90, 90);
        // By TIDE 14 alone a keg loses 9.
        due("the TIDE just ahead counts", x.lone(0), 10);
        due("kegs", x.lone(1), 4);
        due("of 99", x.lone(3), 99);
        x.water(14, 0);
        x.water(15, 15);
        due("that TIDE itself doesn't", x.lone(0), 0);
        x.water(0, 15);
        due("TIDE 0 counts", x.lone(1), 4);
        x.forget();
        x.report(0, 0, 99, 99);
        due("k 0: none counts", x.lone(0), 50);
        FloodCellar late = atTide(16);
        late.report(1, 0, 98, 98);
        due("though TIDE is 16, from TIDE 0 on: vats of 99", late.lone(0), 10);
        due("a vat", late.lone(1), 1);
    }

    private static void loneBarrels() {
        says("A LONE BARREL is a KIND (1 to 5; its number 0), CHALK, FILL at first (9, 19, .. 99)");
        due("all of them", fit(9, 0, 0, 0, 99), 500);
        for (int fill = 9; fill <= 99; fill += 10) due("FILL " + fill, fit(9, 0, 0, fill, fill), 50);
        for (int fill : new int[] {0, 8, 10, 18, 20, 98}) due("FILL " + fill, fit(9, 0, 0, fill, fill), 0);
        // By RISE 2 butts of 99 and CHALK 9, kegs and casks of 99 and CHALK 6 to 9 don't PAY.
        FloodCellar x = new FloodCellar();
        x.report(0, 0, 99, 99);
        x.report(1, 1, 0, 0);
        due("those that don't PAY", x.lone(0), 1 + 4 + 4);
        due("the least KIND", x.lone(1), 3);
        due("CHALK up to 9", x.lone(2), 9);
        due("FILL up to 99", x.lone(3), 99);
        // Only casks leak as TIDES rise: by RISE 0 one in five.
        FloodCellar y = new FloodCellar();
        allWater(y, 0);
        y.report(0, 0, 99, 99);
        y.report(5, 0, 98, 98);
        due("casks, of each CHALK", y.lone(0), 10);
        due("KIND up to 5", y.lone(1), 5);
        // As number 0 a cask FLOATS as a keg: of 99 and CHALK 0 not at all, by RISE 3 it PAYS.
        y.water(0, 12);
        y.report(1, 1, 1, 1);
        due("casks by CHALK to 3", y.lone(0), 4);
    }

    private static void loneKnowsNothing() {
        says("in a TIER of STEP 0, GRATE 0, told nothing");
        FloodCellar x = new FloodCellar();
        for (int f = 0; f < 6; f++) {
            x.tier(f, 0, 9);
            x.tier(f, 1, 9);
        }
        for (int k = 0; k < 6; k++) {
            x.barrel(1, 99, 9, k);
            x.change(k, 4, 1);
        }
        tell(x, "barrel bung;");
        x.ends(1);
        x.tide();
        allWater(x, 12);
        x.report(1, 1, 1, 1);
        due("as by STEP 0, though STEPS are 9", x.lone(0), 170);
        x.forget();
        x.report(15, 0, 84, 84);
        due("as by GRATE 0, beyond END: vats of 99", x.lone(0), 10);
        due("their KIND", x.lone(1), 1);

        says("Those that FIT: by which each REPORT is so, by WATER as it is.");
        FloodCellar y = new FloodCellar();
        due("no REPORT: all", y.lone(0), 500);
        y.report(1, 0, 91, 91);
        due("by RISE 2 tuns of 99", y.lone(1), 2);
        y.water(0, 8);
        due("by SALT 0, too", y.lone(0), 10);
        y.water(0, 4);
        due("by RISE 1 none", y.lone(0), 0);
        y.forget();
        y.report(1, 0, 93, 93);
        due("by RISE 1 tuns of 99", y.lone(0), 10);
        y.report(0, 0, 89, 89);
        due("one of two isn't so", y.lone(0), 0);
    }

    private static void loneCall() {
        says("of that with the least KIND, of these the least CHALK, of these the least FILL: 1 KIND, 2 CHALK, 3 FILL at first."
            + " BAD; NONE (of 1, 2, 3): there are none.");
        FloodCellar x = new FloodCellar();
        int[] all = {500, 1, 0, 9};
        for (int what = 0; what < 4; what++) due("what " + what, x.lone(what), all[what]);
        for (int what : new int[] {-1, 4, MIN, MAX}) due("what " + what, x.lone(what), BAD);
        x.report(0, 0, 0, 0);
        due("how many, of none", x.lone(0), 0);
        for (int what = 1; what < 4; what++) due("what " + what + ", of none", x.lone(what), NONE);
        for (int what : new int[] {-1, 4}) due("BAD ahead of NONE", x.lone(what), BAD);
        x.forget();
        // By RISE 3: not PAID in TIDE 0; tuns of up to 59 are the least, of each CHALK.
        x.water(0, 12);
        x.report(1, 1, 0, 0);
        due("KIND", x.lone(1), 2);
        due("CHALK ahead of FILL", x.lone(2), 0);
        due("FILL", x.lone(3), 9);
        x.report(0, 0, 69, 99);
        // From 69 on tuns PAY; butts of 69 by CHALK 3, of 89 by CHALK 6.
        due("KIND ahead of CHALK", x.lone(1), 3);
        due("CHALK", x.lone(2), 3);
        due("the least FILL of that CHALK", x.lone(3), 69);
        x.report(0, 0, 89, 99);
        due("CHALK", x.lone(2), 6);
        due("FILL", x.lone(3), 89);
    }

    private static void liar() {
        says("LIAR: if none FITS, the least REPORT but for which some would.");
        FloodCellar x = new FloodCellar();
        x.report(0, 0, 8, 8);
        due("the only one", x.liar(), 0);
        for (int i = 1; i < 6; i++) x.report(0, 0, 9, 9);
        due("the first of six", x.liar(), 0);
        x.forget();
        for (int i = 0; i < 5; i++) x.report(0, 0, 9, 9);
        x.report(0, 0, 8, 8);
        due("the last of six", x.liar(), 5);
        x.forget();
        x.report(0, 0, 9, 99);
        x.report(0, 0, 9, 9);
        x.report(0, 0, 19, 19);
        due("one of two that bar one another", x.liar(), 1);
        x.report(0, 0, 19, 19);
        due("two against one", x.liar(), 1);
        x.report(0, 0, 9, 9);
        due("two against two", x.liar(), NONE);
    }

    private static void liarCall() {
        says("LIAR. NONE: some FIT; or there is no such REPORT.");
        FloodCellar x = new FloodCellar();
        due("no REPORTS", x.liar(), NONE);
        x.report(0, 0, 9, 9);
        due("some FIT", x.liar(), NONE);
        x.report(0, 0, 8, 8);
        due("one lies", x.liar(), 1);
        x.report(0, 0, 7, 7);
        due("two lie, whatever is left out", x.liar(), NONE);
        x.forget();
        x.report(15, 0, 99, 99);
        due("by SALT 1 none keeps all", x.liar(), 0);
        allWater(x, 0);
        due("by RISE 0 some FIT", x.liar(), NONE);
    }

    private static void forgetCall() {
        says("There are no REPORTS: how many there were.");
        FloodCellar x = new FloodCellar();
        due("none", x.forget(), 0);
        for (int i = 0; i < 6; i++) x.report(0, 0, 0, 0);
        due("six", x.forget(), 6);
        due("none again", x.forget(), 0);
        due("how many", x.many(3), 0);
        due("all FIT", x.lone(0), 500);
    }

    private static void seedCall() {
        says("z becomes v: what it was.");
        FloodCellar x = new FloodCellar();
        int[] all = {1, 0, -1, -2, -3, -4, MIN, MAX, 12345};
        for (int i = 1; i < all.length; i++) due("seed " + all[i], x.seed(all[i]), all[i - 1]);
        due("the last", x.seed(0), 12345);
    }

    private static int lotFrom(int z) {
        FloodCellar x = new FloodCellar();
        for (int k = 0; k < 6; k++) x.barrel(1, 50, 0, 0);
        x.seed(z);
        x.lot();
        return x.state(4);
    }

    private static void lot() {
        says("z (an int; 1 at first) becomes z * 1103515245 + 12345; the ACT in it is what z >>> 16 leaves by how many BARRELS"
            + " there are and 1");
        int[] from = {0, 1, -1, MAX, MIN, 3};
        int[] to = {12345, 1103527590, -1103502900, 1043980748, -2147471303, -984409216};
        for (int i = 0; i < from.length; i++) {
            FloodCellar x = new FloodCellar();
            if (i != 1) x.seed(from[i]);
            due("no BARRELS", x.lot(), 0);
            due("z behind " + from[i], x.seed(0), to[i]);
        }
        due("ACT 0, from 0", lotFrom(0), 0);
        due("ACT 3, from 1", lotFrom(1), 4);
        due("ACT 5 of a z below 0, from -1", lotFrom(-1), 16);
        due("ACT 4, from the most", lotFrom(MAX), 8);
        due("ACT 1 of a z below 0, from the least", lotFrom(MIN), 1);
        FloodCellar y = new FloodCellar();
        y.barrel(1, 50, 0, 0);
        y.barrel(1, 50, 0, 0);
        y.seed(MIN);
        y.lot();
        due("ACT 2 by two BARRELS, from the least", y.state(4), 2);
        y.seed(0);
        due("ACT 0 by two BARRELS", y.lot(), 1);
        due("none more is STAKED", y.state(4), 2);
    }

    private static void lotCall() {
        says("A TIDE by LOT: what it was WORTH. STATE: it is OVER.");
        FloodCellar x = new FloodCellar();
        x.barrel(1, 90, 0, 0);
        x.ends(4);
        int[] worths = {0, 0, 12 + 2, 2};
        for (int t = 0; t < 4; t++) due("TIDE " + t, x.lot(), worths[t]);
        due("SCORE", x.state(2), 16);
        due("OVER", x.lot(), STATE);
        due("OVER again", x.lot(), STATE);
        due("z stays", x.seed(1), -999580867);
        due("TIDE stays", x.state(0), 4);
        due("SCORE stays", x.state(2), 16);
    }

    private static void times() {
        says("How many of n (1 to 40) times all TIDES yet by LOT, each from how it is now (z goes on from one to the next), are"
            + " WORTH v (0 to 999) or more (all is as it was in the end, z, too).");
        FloodCellar x = new FloodCellar();
        x.barrel(1, 90, 0, 0);
        x.ends(1);
        // From z 1 on the ACTS by one BARREL are 0 0 1 1 1 1 0 1 0 0 1 1.
        int[] told = {0, 0, 1, 2, 3, 4, 4, 5, 5, 5, 6, 7};
        for (int n = 1; n <= 12; n++) {
            due(n + " times 1", x.times(n, 1), told[n - 1]);
            due(n + " times 16", x.times(n, 16), told[n - 1]);
            due(n + " times 17", x.times(n, 17), 0);
            due(n + " times 0", x.times(n, 0), n);
        }
        x.ends(2);
        // By two TIDES 0, 19, 19, 14, 0, 19.
        due("19 of 6", x.times(6, 19), 3);
        due("20 of 6", x.times(6, 20), 0);
        due("15 of 6", x.times(6, 15), 3);
        due("14 of 6", x.times(6, 14), 4);
        due("14 of 4", x.times(4, 14), 3);
        due("1 of 1", x.times(1, 1), 0);
        due("z", x.seed(1), 1);
        due("TIDE, SCORE, STAKED", x.state(0) + x.state(2) + x.state(4), 0);
        due("FILL", x.state(6), 90);
        x.tide();
        x.tide();
        due("OVER: 0 or more", x.times(40, 0), 40);
        due("OVER: 1 or more", x.times(40, 1), 0);
        due("no BARRELS", new FloodCellar().times(40, 1), 0);
    }

    private static void timesCall() {
        says("are WORTH v (0 to 999) or more (all is as it was in the end, z, too). BAD.");
        FloodCellar x = new FloodCellar();
        for (int n : new int[] {0, 41, -1, MIN, MAX}) due("n " + n, x.times(n, 0), BAD);
        for (int v : new int[] {-1, 1000, MIN, MAX}) due("v " + v, x.times(1, v), BAD);
        due("the least", x.times(1, 0), 1);
        due("the most", x.times(40, 999), 0);
        due("the most n", x.times(40, 0), 40);
    }
}
