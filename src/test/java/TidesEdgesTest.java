/** Boundary sentences of THE REST, DRY, LEAST, LEFT and RAFTS in DOC.md, and of promises 14 to 22. */
public final class TidesEdgesTest extends Cellars {
    private static final Sentences S = new Sentences("TidesEdgesTest");

    public static void main(String[] args) {
        theRest();
        tideCall();
        onCall();
        whenCall();
        chalkForCall();
        tierForCall();
        dry();
        dryCall();
        least();
        leastCall();
        left();
        leftCall();
        close();
        raftsCall();
        S.end();
    }

    private static void says(String words) {
        S.says(words);
    }

    private static void due(String call, int got, int want) {
        S.due(call, got, want);
    }

    /** A vat of FILL 99 PAYS 14 at once, and 3 a TIDE from then on; STAKED it loses nothing. */
    private static FloodCellar oneVat() {
        FloodCellar x = new FloodCellar();
        x.barrel(1, 99, 0, 0);
        return x;
    }

    private static FloodCellar overWith(int kind, int fill) {
        FloodCellar x = new FloodCellar();
        x.ends(1);
        x.tide();
        x.barrel(kind, fill, 0, 0);
        return x;
    }

    private static void theRest() {
        says("in each the least BARREL being told that MAY be staked (none, if there is none)");
        FloodCellar x = new FloodCellar();
        due("no BARRELS", x.tide(), 0);
        x.barrel(1, 0, 0, 0);
        x.barrel(4, 10, 9, 0);
        x.barrel(2, 60, 0, 0);
        tell(x, "tun bung;");
        due("none of three MAY", x.tide(), 0);
        due("so none was bunged", x.barrelOf(2, 2), 0);
        tell(x, "");
        x.change(2, 1, 60);
        // FILL 60: it FLOATS 2, PAYS 9; of 60 it loses a third of 8.
        due("the last MAY", x.tide(), 10);
        due("it is STAKED", x.state(4), 4);
        due("no more MAY then", x.tide(), 1);
        tell(x, "vat bung;keg bung;");
        x.change(0, 1, 1);
        due("the first would be bunged", x.tide(), 1);
        due("so none is told", x.barrelOf(0, 2), 0);
        tell(x, "");
        x.change(0, 1, 1);
        due("the first MAY then", x.tide(), 3 + 1);
        due("both are STAKED", x.state(4), 5);
    }

    private static void tideCall() {
        says("A TIDE goes by as in THE REST: what it was WORTH. STATE: it is OVER.");
        FloodCellar x = oneVat();
        x.ends(2);
        due("the first", x.tide(), 17);
        due("the last", x.tide(), 3);
        due("one more", x.tide(), STATE);
        due("TIDE stays", x.state(0), 2);
        due("SCORE stays", x.state(2), 20);
        due("FILL stays", x.barrelOf(0, 1), 99);
        x.ends(3);
        due("not OVER any more", x.tide(), 3);
        FloodCellar all = atTide(15);
        due("TIDE 15", all.tide(), 0);
        due("TIDE 16", all.tide(), STATE);
    }

    private static void onCall() {
        says("What n (0 to 16) TIDES of THE REST (fewer, if it is OVER) are WORTH. BAD.");
        FloodCellar x = oneVat();
        for (int n : new int[] {-1, 17, MIN, MAX}) due("n " + n, x.on(n), BAD);
        due("n 0", x.on(0), 0);
        due("n 1", x.on(1), 17);
        due("n 12, to END", x.on(12), 50);
        due("n 13, beyond END", x.on(13), 50);
        due("n 16, beyond END", x.on(16), 50);
        x.ends(16);
        due("n 15", x.on(15), 59);
        due("n 16, to END", x.on(16), 62);
        x.ends(1);
        due("n 16 of one", x.on(16), 17);
        x.tide();
        due("OVER", x.on(16), 0);
        due("OVER, n 0", x.on(0), 0);
        due("OVER, n 17", x.on(17), BAD);
    }

    private static void whenCall() {
        says("The first TIDE of THE REST behind which a BARREL is STAKED. BAD; NONE (also if it is now).");
        FloodCellar x = oneVat();
        x.barrel(1, 99, 0, 0);
        for (int k : new int[] {-1, 2, 5, 6, MIN, MAX}) due("BARREL " + k, x.when(k), BAD);
        due("TIDE 0", x.when(0), 0);
        due("TIDE 1", x.when(1), 1);
        x.ends(1);
        due("it would be OVER", x.when(1), NONE);
        x.ends(16);
        x.change(0, 4, 1);
        due("now", x.when(0), NONE);
        due("the other one at once then", x.when(1), 0);
        x.change(0, 4, 0);
        tell(x, "vat if number = 0 and tide < 15 leave;");
        due("the last TIDE of all", x.when(0), 15);
        x.ends(15);
        due("just too late", x.when(0), NONE);
        tell(x, "vat leave;");
        due("never", x.when(0), NONE);
        due("BAD ahead of NONE", x.when(2), BAD);
        x.tide();
        x.tide();
        tell(x, "");
        due("TIDES are told from the first on", x.when(0), 2);
        due("TIDES are told from the first on", x.when(1), 3);
        due("OVER", overWith(1, 99).when(0), NONE);
        due("no BARRELS", new FloodCellar().when(0), BAD);
    }

    private static void chalkForCall() {
        says("CHALK with which a BARREL makes THE REST WORTH most; of several the least. BAD.");
        FloodCellar x = oneVat();
        for (int k : new int[] {-1, 1, 6, MIN, MAX}) due("BARREL " + k, x.chalkFor(k), BAD);
        x.change(0, 2, 7);
        due("all the same", x.chalkFor(0), 0);
        tell(x, "vat if chalk < 9 leave;");
        due("the most", x.chalkFor(0), 9);
        tell(x, "vat if chalk > 0 leave;");
        due("the least", x.chalkFor(0), 0);
        tell(x, "vat if not (chalk = 4 or chalk = 8) leave;");
        due("the least of two", x.chalkFor(0), 4);
        tell(x, "vat leave;");
        due("none is WORTH anything", x.chalkFor(0), 0);
        due("CHALK stays", x.barrelOf(0, 2), 7);
        x.change(0, 4, 1);
        due("STAKED", x.chalkFor(0), 0);
        due("OVER", overWith(1, 99).chalkFor(0), 0);
        due("no BARRELS", new FloodCellar().chalkFor(0), BAD);
        FloodCellar y = oneVat();
        y.ends(16);
        tell(y, "vat if tide<15 leave;vat if chalk < 6 leave;");
        due("all TIDES yet count", y.chalkFor(0), 6);
    }

    private static void tierForCall() {
        says("TIER likewise. BAD.");
        FloodCellar x = oneVat();
        for (int k : new int[] {-1, 1, 6, MIN, MAX}) due("BARREL " + k, x.tierFor(k), BAD);
        x.change(0, 3, 4);
        due("all the same", x.tierFor(0), 0);
        for (int f = 0; f < 5; f++) x.tier(f, 1, 9);
        due("the most", x.tierFor(0), 5);
        x.tier(0, 1, 0);
        due("the least of two", x.tierFor(0), 0);
        x.tier(0, 1, 9);
        x.tier(3, 1, 0);
        due("the least of two others", x.tierFor(0), 3);
        due("TIER stays", x.barrelOf(0, 3), 4);
        FloodCellar over = overWith(1, 99);
        over.tier(0, 1, 9);
        due("OVER", over.tierFor(0), 0);
        due("no BARRELS", new FloodCellar().tierFor(0), BAD);
        FloodCellar y = new FloodCellar();
        y.barrel(4, 99, 0, 0);
        y.barrel(1, 99, 0, 4);
        y.tier(5, 1, 9);
        y.water(0, 12);
        tell(y, "keg leave;");
        // The keg is left: it is WORTH nothing, so where it lies counts for nothing.
        due("one that is left", y.tierFor(0), 0);
        due("above none that leaks less", y.tierFor(1), 0);
    }

    private static void dry() {
        says("DRY: the first TIDE, from TIDE on, as which it is when FILL of it is 0, in THE REST.");
        FloodCellar x = new FloodCellar();
        x.ends(2);
        // By RISE 2 a tun leaks 8, and FLOATS too much to be STAKED.
        x.barrel(2, 8, 0, 0);
        due("behind one TIDE", x.dry(0), 1);
        x.change(0, 1, 9);
        due("behind two, so that it is OVER", x.dry(0), 2);
        x.change(0, 1, 16);
        due("just behind two", x.dry(0), 2);
        x.change(0, 1, 17);
        due("1 is left when it is OVER", x.dry(0), NONE);
        x.ends(3);
        due("a TIDE more", x.dry(0), 3);
        x.change(0, 1, 99);
        tell(x, "tun leave;");
        x.ends(16);
        due("by all TIDES", x.dry(0), 13);
        allWater(x, 0);
        tell(x, "tun leave;");
        x.change(0, 1, 64);
        due("just as TIDE 16 would come", x.dry(0), 16);
        x.change(0, 1, 65);
        due("never", x.dry(0), NONE);
        FloodCellar later = atTide(5);
        later.barrel(2, 9, 0, 0);
        due("TIDES are told from the first on", later.dry(0), 7);
        due("STAKED in THE REST it lasts", oneVat().dry(0), NONE);
    }

    private static void dryCall() {
        says("DRY (TIDE itself, if FILL is 0 now). BAD; NONE.");
        FloodCellar x = new FloodCellar();
        due("no BARRELS", x.dry(0), BAD);
        x.barrel(1, 0, 0, 0);
        for (int k : new int[] {-1, 1, 6, MIN, MAX}) due("BARREL " + k, x.dry(k), BAD);
        due("now", x.dry(0), 0);
        x.change(0, 4, 1);
        due("now, though STAKED", x.dry(0), 0);
        FloodCellar y = atTide(7);
        y.barrel(1, 0, 0, 0);
        due("now, at TIDE 7", y.dry(0), 7);
        due("now, when it is OVER", overWith(1, 0).dry(0), 1);
        due("FILL 1, when it is OVER", overWith(1, 1).dry(0), NONE);
        FloodCellar last = atTide(16);
        last.barrel(1, 0, 0, 0);
        due("now, behind TIDE 15", last.dry(0), 16);
    }

    private static int leastStep(int fill, int chalk, int water) {
        FloodCellar x = new FloodCellar();
        x.water(0, water);
        x.tier(4, 0, 9);
        x.barrel(4, fill, chalk, 4);
        int step = x.least(0);
        due("STEP stays", x.tierOf(4, 0), 9);
        return step;
    }

    private static void least() {
        says("LEAST of one: the least STEP (0 to 9) of its TIER with which it would PAY more than 0 now (WILL doesn't count).");
        due("FLOATS 0, RISE 0", leastStep(99, 0, 0), 0);
        due("FLOATS 4, RISE 0", leastStep(99, 9, 3), 0);
        due("FLOATS 4, RISE 1", leastStep(99, 9, 4), 1);
        due("FLOATS 10, RISE 3", leastStep(33, 9, 15), 9);
        due("FLOATS 11, RISE 3", leastStep(32, 9, 15), NONE);
        due("FLOATS 13, RISE 0", leastStep(1, 9, 0), 9);
        due("FLOATS 13, RISE 1", leastStep(1, 9, 7), NONE);
        due("FILL 0", leastStep(0, 0, 0), NONE);
        FloodCellar x = oneVat();
        tell(x, "vat bung;");
        due("to bung", x.least(0), 0);
        tell(x, "vat leave;");
        due("to leave", x.least(0), 0);
        due("OVER", overWith(1, 99).least(0), 0);
    }

    private static void leastCall() {
        says("LEAST of a BARREL. BAD; NONE: with none.");
        FloodCellar x = new FloodCellar();
        due("no BARRELS", x.least(0), BAD);
        x.barrel(1, 99, 0, 0);
        for (int k : new int[] {-1, 1, 6, MIN, MAX}) due("BARREL " + k, x.least(k), BAD);
        x.change(0, 4, 1);
        due("STAKED", x.least(0), NONE);
        due("BAD ahead of NONE", x.least(1), BAD);
    }

    private static void left() {
        says("LEFT by n: FILL of all together, those that are STAKED, behind n TIDES of THE REST (fewer, if it is OVER).");
        FloodCellar x = oneVat();
        x.barrel(1, 50, 0, 0);
        due("FILL of none", new FloodCellar().left(16, 0), 0);
        due("STAKED of none", new FloodCellar().left(16, 1), 0);
        due("FILL now", x.left(0, 0), 149);
        due("STAKED now", x.left(0, 1), 0);
        due("FILL behind one", x.left(1, 0), 148);
        due("STAKED behind one", x.left(1, 1), 1);
        due("FILL behind two", x.left(2, 0), 148);
        due("STAKED behind two", x.left(2, 1), 3);
        x.ends(1);
        due("fewer: FILL", x.left(2, 0), 148);
        due("fewer: STAKED", x.left(16, 1), 1);
        x.tide();
        due("OVER: FILL", x.left(16, 0), 148);
        due("OVER: STAKED", x.left(16, 1), 1);
        FloodCellar y = new FloodCellar();
        y.barrel(1, 16, 0, 0);
        tell(y, "vat leave;");
        due("to END", y.left(16, 0), 4);
        y.ends(16);
        due("one TIDE ahead of the end of all", y.left(15, 0), 1);
        due("to the end of all", y.left(16, 0), 0);
    }

    private static void leftCall() {
        says("LEFT by n (0 to 16): what 0 FILL of all together, 1 those that are STAKED, as a set. BAD.");
        FloodCellar x = oneVat();
        for (int n : new int[] {-1, 17, MIN, MAX}) {
            due("n " + n, x.left(n, 0), BAD);
            due("n " + n + ", what 1", x.left(n, 1), BAD);
        }
        for (int what : new int[] {-1, 2, MIN, MAX}) due("what " + what, x.left(0, what), BAD);
        for (int k = 1; k < 6; k++) x.barrel(1, 99, 0, 0);
        due("six", x.left(6, 1), 63);
        due("five of six", x.left(5, 1), 31);
    }

    /** Kegs of FILL 99 FLOAT half their CHALK. */
    private static void close() {
        says("CLOSE: two BARRELS that aren't STAKED, of the same TIER, or that FLOAT the same; a RAFT: all that hang together so");
        FloodCellar x = new FloodCellar();
        x.barrel(4, 99, 0, 0);
        x.barrel(4, 99, 2, 1);
        due("neither", x.rafts(0), 1);
        x.change(1, 3, 0);
        due("of the same TIER", x.rafts(0), 3);
        x.change(1, 3, 5);
        x.change(1, 2, 1);
        due("that FLOAT the same", x.rafts(0), 3);
        x.change(1, 4, 1);
        due("the other one is STAKED", x.rafts(0), 1);
        x.change(0, 4, 1);
        x.change(1, 4, 0);
        due("it is STAKED itself", x.rafts(0), 0);

        says("one by the other");
        int[][] chain = {{0, 0}, {0, 2}, {1, 2}, {1, 4}, {2, 4}, {2, 6}};
        FloodCellar y = new FloodCellar();
        for (int[] link : chain) y.barrel(4, 99, link[1], link[0]);
        due("all by links", y.rafts(-1), 1);
        for (int k = 0; k < 6; k++) due("all by links from " + k, y.rafts(k), 63);
        y.change(2, 4, 1);
        due("a link is STAKED", y.rafts(-1), 2);
        int[] parts = {3, 3, 0, 56, 56, 56};
        for (int k = 0; k < 6; k++) due("a part, from " + k, y.rafts(k), parts[k]);
        // A chain whose links lie crosswise by number: 4 - 1 - 5 - 0 - 3 - 2.
        int[] order = {3, 1, 5, 4, 0, 2};
        FloodCellar z = new FloodCellar();
        for (int k = 0; k < 6; k++) z.barrel(4, 99, chain[order[k]][1], chain[order[k]][0]);
        for (int k = 0; k < 6; k++) due("all by crosswise links from " + k, z.rafts(k), 63);
    }

    private static void raftsCall() {
        says("what -1 how many, 0 .. 5 BARRELS of that BARREL's RAFT, as a set (0: it is STAKED). BAD: also no such BARREL.");
        FloodCellar x = new FloodCellar();
        due("none", x.rafts(-1), 0);
        for (int what : new int[] {0, 5, 6, -2, MIN, MAX}) due("none, what " + what, x.rafts(what), BAD);
        // FLOATS 0, 1, 2, 3, 4 in TIERS of their own, and 9 in the last: each is a RAFT.
        for (int k = 0; k < 5; k++) x.barrel(4, 99, 2 * k, k);
        due("no such BARREL", x.rafts(5), BAD);
        x.barrel(4, 0, 0, 5);
        due("six alone", x.rafts(-1), 6);
        for (int k = 0; k < 6; k++) due("alone " + k, x.rafts(k), 1 << k);
        for (int what : new int[] {-2, 6, MIN, MAX}) due("what " + what, x.rafts(what), BAD);
        for (int k = 0; k < 6; k++) x.change(k, 4, 1);
        due("all are STAKED", x.rafts(-1), 0);
        for (int k = 0; k < 6; k++) due("STAKED " + k, x.rafts(k), 0);
        x.change(5, 4, 0);
        due("one isn't", x.rafts(-1), 1);
        due("the last", x.rafts(5), 32);
    }
}
