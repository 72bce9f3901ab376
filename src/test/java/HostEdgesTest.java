/** Boundary sentences of SHEETS, SHELVES, ACTS and THE TRACE in DOC.md, and of promises 41 to 50. */
public final class HostEdgesTest extends Cellars {
    private static final Sentences S = new Sentences("HostEdgesTest");

    public static void main(String[] args) {
        rowsOfSheets();
        sheetCall();
        sheetsMissing();
        narrowed();
        writeCall();
        itemCall();
        itemsAsLow();
        goAllLeavesOut();
        goAllCall();
        goAllOutside();
        wouldBeCall();
        wouldBeByItems();
        shelfCall();
        shelvesAtTheTime();
        takenThings();
        takenRows();
        takenCall();
        actsThatWrap();
        quotients();
        partedBy0();
        actCall();
        tracesOfActs();
        traceCall();
        manyCall();
        S.end();
    }

    private static void says(String words) {
        S.says(words);
    }

    private static void due(String call, int got, int want) {
        S.due(call, got, want);
    }

    /** SHEETS 0 to 3 are rows of three bytes, of none, of three longs, and missing. */
    private static FloodCellar withSheets() {
        FloodCellar x = new FloodCellar();
        x.sheet(0, 0, 3);
        x.sheet(1, 0, 0);
        x.sheet(2, 3, 3);
        return x;
    }

    private static void rowsOfSheets() {
        says("SHEETS 0 to 3 are rows of bytes (sort 0), shorts (1), ints (2), longs (3) or booleans (4), 40 at most, or missing"
            + " (at first).");
        FloodCellar x = new FloodCellar();
        for (int s = 0; s < 4; s++) {
            for (int sort = 0; sort < 5; sort++) {
                due("SHEET " + s + " at first", x.item(s, sort, 0), -11);
                due("40 of sort " + sort, x.sheet(s, sort, 40), 1);
                due("the first item", x.item(s, sort, 0), 0);
                due("the last item", x.item(s, sort, 39), 0);
                due("one more", x.item(s, sort, 40), -12);
                due("41 of sort " + sort, x.sheet(s, sort, 41), BAD);
                due("that changes nothing", x.item(s, sort, 39), 0);
                due("none of sort " + sort, x.sheet(s, sort, 0), 1);
                due("no first item", x.item(s, sort, 0), -12);
                due("missing", x.sheet(s, -1, 0), 1);
            }
        }
    }

    private static void sheetCall() {
        says("BAD: no such SHEET, sort, n above 40; -14.");
        FloodCellar x = new FloodCellar();
        for (int s : new int[] {-1, 4, MIN, MAX}) due("SHEET " + s, x.sheet(s, 0, 1), BAD);
        for (int sort : new int[] {-2, 5, MIN, MAX}) due("sort " + sort, x.sheet(0, sort, 1), BAD);
        for (int n : new int[] {41, 100, MAX}) due("n " + n, x.sheet(0, 0, n), BAD);
        for (int n : new int[] {-1, -41, MIN}) due("n " + n, x.sheet(0, 4, n), -14);
        due("no such SHEET, ahead of -14", x.sheet(4, 0, -1), BAD);
        due("no such sort, ahead of -14", x.sheet(0, 5, -1), BAD);
        due("it is missing yet", x.item(0, 0, 0), -11);
        x.sheet(0, 2, 2);
        x.write(0, 1, 7);
        due("-14 of a row that is there", x.sheet(0, 2, -1), -14);
        due("it stays", x.item(0, 2, 1), 7);
        due("all 0", x.sheet(0, 2, 2) + x.item(0, 2, 1), 1);
    }

    private static void sheetsMissing() {
        says("or missing (sort -1; n counts nothing then): 1.");
        FloodCellar x = withSheets();
        for (int n : new int[] {0, 40, 41, -1, MIN, MAX}) {
            due("n " + n, x.sheet(0, -1, n), 1);
            due("missing by n " + n, x.item(0, 0, 0), -11);
            due("missing already, n " + n, x.sheet(3, -1, n), 1);
        }
        due("no such SHEET", x.sheet(4, -1, 0), BAD);
    }

    private static int narrow(int sort, int v) {
        FloodCellar x = new FloodCellar();
        x.sheet(0, sort, 1);
        due("write " + v, x.write(0, 0, v), 1);
        return x.item(0, sort, 0);
    }

    private static void narrowed() {
        says("Item i becomes v, narrowed to its sort (booleans: whether it is not 0): 1.");
        int[][] bytes = {{127, 127}, {128, -128}, {-128, -128}, {-129, 127}, {255, -1}, {256, 0}, {MAX, -1}, {MIN, 0}};
        for (int[] v : bytes) due("byte " + v[0], narrow(0, v[0]), v[1]);
        int[][] shorts = {{32767, 32767}, {32768, -32768}, {-32768, -32768}, {-32769, 32767}, {65535, -1}, {65536, 0},
            {MAX, -1}, {MIN, 0}};
        for (int[] v : shorts) due("short " + v[0], narrow(1, v[0]), v[1]);
        for (int v : new int[] {0, -1, 128, 32768, MIN, MAX}) {
            due("int " + v, narrow(2, v), v);
            due("long " + v, narrow(3, v), v);
            due("boolean " + v, narrow(4, v), v == 0 ? 0 : 1);
        }
        due("boolean 256", narrow(4, 256), 1);
    }

    private static void writeCall() {
        says("BAD: no such SHEET; -11; -12.");
        FloodCellar x = withSheets();
        for (int s : new int[] {-1, 4, MIN, MAX}) due("SHEET " + s, x.write(s, 0, 1), BAD);
        due("missing", x.write(3, 0, 1), -11);
        due("missing, ahead of outside", x.write(3, -1, 1), -11);
        for (int i : new int[] {-1, 3, 39, 40, MIN, MAX}) due("item " + i, x.write(0, i, 1), -12);
        due("of an empty row", x.write(1, 0, 1), -12);
        due("the first", x.write(0, 0, 1), 1);
        due("the last", x.write(0, 2, 3), 1);
        for (int i = 0; i < 3; i++) due("item " + i, x.item(0, 0, i), i == 1 ? 0 : i + 1);
    }

    private static void itemCall() {
        says("BAD: no such SHEET, sort; -13; -11; -12.");
        FloodCellar x = withSheets();
        for (int s : new int[] {-1, 4, MIN, MAX}) due("SHEET " + s, x.item(s, 0, 0), BAD);
        for (int sort : new int[] {-1, 5, 10, MIN, MAX}) {
            due("sort " + sort, x.item(0, sort, 0), BAD);
            due("sort " + sort + ", ahead of missing", x.item(3, sort, 0), BAD);
        }
        for (int sort = 1; sort < 5; sort++) {
            due("bytes for " + sort, x.item(0, sort, 0), -13);
            due("bytes for " + sort + ", ahead of outside", x.item(0, sort, 3), -13);
            due("no bytes for " + sort, x.item(1, sort, 0), -13);
        }
        for (int sort = 0; sort < 5; sort++) due("missing for " + sort, x.item(3, sort, -1), -11);
        for (int i : new int[] {-1, 3, MIN, MAX}) due("item " + i, x.item(0, 0, i), -12);
        due("of an empty row", x.item(1, 0, 0), -12);
        due("the last", x.item(0, 0, 2), 0);
    }

    private static void itemsAsLow() {
        says("(An item may be as low as these, too.)");
        for (int v : new int[] {-1, -11, -12, -13}) {
            for (int sort = 0; sort < 4; sort++) due("an item of " + v, narrow(sort, v), v);
        }
        says("of longs the lowest 32 bits; of booleans 1, 0");
        due("the least int", narrow(3, MIN), MIN);
        due("below 0", narrow(3, -1), -1);
        due("a boolean that is", narrow(4, -1), 1);
        due("a boolean that isn't", narrow(4, 0), 0);
    }

    /** A vat of FILL 90 PAYS 13 at once, and 3 a TIDE while it is STAKED. */
    private static FloodCellar withActs(int... acts) {
        FloodCellar x = new FloodCellar();
        x.barrel(1, 90, 0, 0);
        x.sheet(0, 0, acts.length);
        for (int i = 0; i < acts.length; i++) x.write(0, i, acts[i]);
        return x;
    }

    private static void goAllLeavesOut() {
        says("(what is none, or when it is OVER, is left out): what these TIDES were WORTH together");
        FloodCellar x = withActs(2, -1, 127, -128, 1, 0, 2, 1);
        due("four that are none", x.goAll(0, 0, 4), 0);
        due("no TIDE went by", x.state(0), 0);
        due("one that is", x.goAll(0, 0, 5), 16);
        due("one TIDE", x.state(0), 1);
        due("0, none, and one that is STAKED", x.goAll(0, 5, 3), 6);
        due("two TIDES more", x.state(0), 3);
        x.ends(4);
        due("OVER behind one", x.goAll(0, 4, 4), 3);
        due("OVER", x.state(3), 1);
        due("all are left out", x.goAll(0, 0, 8), 0);
        due("SCORE", x.state(2), 16 + 6 + 3);
        FloodCellar y = withActs(new int[40]);
        y.ends(16);
        due("20 of 40, till it is OVER", y.goAll(0, 20, 20), 0);
        due("all TIDES went by", y.state(0), 16);
        FloodCellar z = withActs(0, 0, 0);
        due("three that are 0", z.goAll(0, 0, 3), 0);
        due("three TIDES", z.state(0), 3);
    }

    private static void goAllCall() {
        says("n (0 to 20) items of a SHEET taken for bytes, from item i on, are ACTS, each followed by a TIDE");
        FloodCellar x = withActs(new int[40]);
        for (int n : new int[] {-1, 21, 40, MIN, MAX}) due("n " + n, x.goAll(0, 0, n), BAD);
        for (int s : new int[] {-1, 4, MIN, MAX}) due("SHEET " + s, x.goAll(s, 0, 1), BAD);
        x.sheet(2, 4, 3);
        due("no bytes", x.goAll(2, 0, 1), -13);
        due("no bytes, ahead of outside", x.goAll(2, 3, 1), -13);
        due("no bytes, none of them", x.goAll(2, 0, 0), -13);
        due("no bytes, n 21", x.goAll(2, 0, 21), BAD);
        due("missing", x.goAll(3, 0, 1), -11);
        due("missing, none of it", x.goAll(3, 0, 0), -11);
        due("missing, n -1", x.goAll(3, 0, -1), BAD);
        due("none", x.goAll(0, 0, 0), 0);
        due("none, from outside on", x.goAll(0, 40, 0), 0);
        due("none, from below on", x.goAll(0, MIN, 0), 0);
        due("no TIDE went by", x.state(0), 0);
        due("the last item", x.goAll(0, 39, 1), 0);
        due("one TIDE", x.state(0), 1);
    }

    private static void goAllOutside() {
        says("-12: what stood ahead was done.");
        FloodCellar x = withActs(0, 1, 1);
        due("one beyond two", x.goAll(0, 1, 3), -12);
        due("two TIDES went by", x.state(0), 2);
        due("it is STAKED", x.state(4), 1);
        due("SCORE", x.state(2), 16 + 3);
        for (int i : new int[] {-1, 3, 40, MIN, MAX, MAX - 1}) due("from " + i + " on", x.goAll(0, i, 2), -12);
        due("no more went by", x.state(0), 2);
        x.ends(2);
        due("outside, when it is OVER", x.goAll(0, 2, 2), -12);
        x.sheet(1, 0, 0);
        due("of an empty row", x.goAll(1, 0, 1), -12);
    }

    private static void wouldBeCall() {
        says("n (0 to 20) items likewise: what they would be WORTH. BAD: no such SHEET, n; -13; -11");
        FloodCellar x = withActs(new int[40]);
        x.write(0, 0, 1);
        x.ends(16);
        for (int n : new int[] {-1, 21, 40, MIN, MAX}) due("n " + n, x.wouldBe(0, 0, n), BAD);
        for (int s : new int[] {-1, 4, MIN, MAX}) due("SHEET " + s, x.wouldBe(s, 0, 1), BAD);
        x.sheet(2, 4, 3);
        due("no bytes", x.wouldBe(2, 0, 1), -13);
        due("no bytes, ahead of outside", x.wouldBe(2, 3, 1), -13);
        due("no bytes, none of them", x.wouldBe(2, 0, 0), -13);
        due("no bytes, n 21", x.wouldBe(2, 0, 21), BAD);
        due("missing", x.wouldBe(3, 0, 1), -11);
        due("missing, none of it", x.wouldBe(3, 0, 0), -11);
        due("missing, n -1", x.wouldBe(3, 0, -1), BAD);
        due("none", x.wouldBe(0, 0, 0), 0);
        due("none, from outside on", x.wouldBe(0, 40, 0), 0);
        due("sixteen", x.wouldBe(0, 0, 16), 16 + 15 * 3);
        due("nothing is changed", x.state(0) + x.state(2) + x.state(4), 0);
    }

    private static void wouldBeByItems() {
        says("then, by items, -12; STATE: one is no ACT, or it would be OVER ahead of it");
        FloodCellar x = withActs(1, 0, 2, -1);
        x.ends(2);
        due("two", x.wouldBe(0, 0, 2), 19);
        due("OVER ahead of the third", x.wouldBe(0, 0, 3), STATE);
        x.ends(12);
        due("the third is none", x.wouldBe(0, 0, 3), STATE);
        due("none, ahead of outside", x.wouldBe(0, 2, 20), STATE);
        due("below 0", x.wouldBe(0, 3, 1), STATE);
        x.write(0, 2, 0);
        x.write(0, 3, 1);
        due("all four", x.wouldBe(0, 0, 4), 25);
        due("outside behind four", x.wouldBe(0, 0, 5), -12);
        for (int i : new int[] {-1, 4, 40, MIN, MAX, MAX - 1}) due("from " + i + " on", x.wouldBe(0, i, 3), -12);
        x.ends(4);
        due("outside, ahead of OVER", x.wouldBe(0, 0, 5), -12);
        x.ends(3);
        due("OVER, ahead of outside", x.wouldBe(0, 0, 5), STATE);
        x.ends(1);
        x.tide();
        due("OVER now", x.wouldBe(0, 0, 1), STATE);
        due("OVER now, none", x.wouldBe(0, 0, 0), 0);
        due("OVER now, outside", x.wouldBe(0, 4, 1), -12);
    }

    private static void shelfCall() {
        says("A SHELF holds BARREL n (what 0), the row of SHEET n (1; nothing, if missing), nothing (2): 1. BAD: no such SHELF,"
            + " what, thing.");
        FloodCellar x = withSheets();
        due("no BARRELS", x.shelf(0, 0, 0), BAD);
        x.barrel(4, 5, 5, 5);
        for (int s : new int[] {-1, 4, MIN, MAX}) {
            due("SHELF " + s, x.shelf(s, 0, 0), BAD);
            due("SHELF " + s + ", nothing", x.shelf(s, 2, 0), BAD);
        }
        for (int what : new int[] {-1, 3, MIN, MAX}) due("what " + what, x.shelf(0, what, 0), BAD);
        due("a BARREL on the first", x.shelf(0, 0, 0), 1);
        due("a row on the last", x.shelf(3, 1, 2), 1);
        for (int n : new int[] {-1, 1, 5, 6, MIN, MAX}) due("BARREL " + n, x.shelf(0, 0, n), BAD);
        for (int n : new int[] {-1, 4, MIN, MAX}) due("SHEET " + n, x.shelf(3, 1, n), BAD);
        due("the BARREL stays", x.taken(0, 4), 0);
        due("the row stays", x.taken(3, 13), 3);
        due("a missing one", x.shelf(3, 1, 3), 1);
        due("nothing then", x.taken(3, 13), -11);
        due("an empty row", x.shelf(3, 1, 1), 1);
        due("that is no nothing", x.taken(3, 10), 0);
        for (int n : new int[] {0, 6, MIN, MAX}) due("nothing, n " + n, x.shelf(0, 2, n), 1);
        due("nothing there", x.taken(0, 4), -11);
    }

    private static void shelvesAtTheTime() {
        says("SHELVES 0 to 3 hold a BARREL (by its number; nothing, if there is no such one at the time), a SHEET's row, or nothing"
            + " (at first).");
        FloodCellar x = new FloodCellar();
        for (int s = 0; s < 4; s++) due("SHELF " + s + " at first", x.taken(s, 0), -11);
        x.barrel(1, 0, 0, 0);
        x.keep();
        x.barrel(2, 0, 0, 0);
        x.shelf(0, 0, 1);
        x.shelf(1, 0, 0);
        due("the last BARREL", x.taken(0, 2), 1);
        due("it acts", x.act(0, 0, 1), 5);
        x.again();
        due("there is no such one", x.taken(0, 2), -11);
        due("it doesn't act", x.act(0, 0, 1), 0);
        due("no TRACE", x.many(6), 0);
        due("the first is there", x.taken(1, 1), 0);
        x.barrel(5, 0, 0, 0);
        due("another one of that number", x.taken(0, 5), 1);
        due("by its KIND now", x.taken(0, 2), -13);
        FloodCellar y = withSheets();
        y.shelf(0, 1, 0);
        y.sheet(0, -1, 0);
        due("the row, though the SHEET is missing now", y.taken(0, 10), 3);
        y.sheet(0, 3, 5);
        due("the row, though the SHEET is another now", y.taken(0, 13), -13);
        y.shelf(0, 1, 0);
        due("put there again", y.taken(0, 13), 5);
    }

    private static void takenThings() {
        says("What a SHELF holds taken for a thing of KIND as (0 to 5, or one under it): its number");
        FloodCellar x = new FloodCellar();
        for (int kind = 1; kind <= 5; kind++) x.barrel(kind, 0, 0, 0);
        int[][] under = {{1, 1, 0, 0, 0, 0}, {1, 0, 1, 0, 0, 0}, {1, 0, 1, 1, 0, 0}, {1, 0, 0, 0, 1, 0}, {1, 0, 0, 0, 1, 1}};
        for (int k = 0; k < 5; k++) {
            x.shelf(3, 0, k);
            for (int as = 0; as < 6; as++) due("KIND " + (k + 1) + " as " + as, x.taken(3, as), under[k][as] == 1 ? k : -13);
            for (int as = 10; as < 15; as++) due("KIND " + (k + 1) + " as a row, " + as, x.taken(3, as), -13);
        }
        for (int as : new int[] {-1, 6, 7, 8, 9, 15, MIN, MAX}) due("as " + as, x.taken(3, as), BAD);
    }

    private static void takenRows() {
        says("for a row of sort as - 10 (as 10 to 14): how many items");
        FloodCellar x = new FloodCellar();
        for (int sort = 0; sort < 5; sort++) {
            for (int n : new int[] {0, 1, 40}) {
                x.sheet(0, sort, n);
                x.shelf(0, 1, 0);
                for (int as = 10; as < 15; as++) {
                    due(n + " of sort " + sort + " as " + as, x.taken(0, as), as == sort + 10 ? n : -13);
                }
            }
            for (int as = 0; as < 6; as++) due("sort " + sort + " as KIND " + as, x.taken(0, as), -13);
        }
    }

    private static void takenCall() {
        says("BAD: no such SHELF, as; -13; -11.");
        FloodCellar x = new FloodCellar();
        for (int s : new int[] {-1, 4, MIN, MAX}) due("SHELF " + s, x.taken(s, 0), BAD);
        for (int as : new int[] {-1, 6, 9, 15, MIN, MAX}) due("nothing as " + as, x.taken(0, as), BAD);
        for (int as = 0; as < 6; as++) due("nothing as " + as, x.taken(0, as), -11);
        for (int as = 10; as < 15; as++) due("nothing as " + as, x.taken(0, as), -11);
    }

    /** What an ACT answers of a BARREL of this KIND, number and TIER. */
    private static int act(int kind, int n, int a, int act, int x) {
        return shelved(kind, n, a).act(0, act, x);
    }

    private static FloodCellar shelved(int kind, int n, int a) {
        FloodCellar x = new FloodCellar();
        for (int k = 0; k <= n; k++) x.barrel(kind, 0, 0, a);
        x.shelf(0, 0, n);
        return x;
    }

    private static void actsThatWrap() {
        says("with a number x (ints that wrap)");
        due("twice the most is -2", act(2, 0, 0, 0, MAX), -2);
        due("twice the least is 0", act(2, 0, 0, 0, MIN), 0);
        due("twice the most, and 15", act(2, 5, 5, 0, MAX), 13);
        due("a vat's, and 16", act(1, 0, 0, 0, MAX), 14);
        due("a vat's beyond the most", act(1, 0, 0, 0, 1073741823), MIN + 14);
        due("a butt's, 7 below the least", act(3, 0, 0, 0, MIN), -14);
        due("a tun's, 4 times 5 below the least", act(2, 0, 5, 1, -1073741824), 0x7FFFFFEC ^ 17);
        due("a cask's, 0 less the least", act(5, 0, 0, 1, -1073741824), MIN);
        due("the least by -1", act(2, 0, 1, 2, MIN), MIN);
        due("thrice the least", act(4, 0, 1, 2, MIN), MIN);
        due("thrice the most", act(4, 1, 2, 2, MAX), 2147483645);
        due("a cask's: thrice the most, less 5", act(5, 1, 2, 2, MAX), 2147483640);
        due("a cask's: thrice the least, less 12", act(5, 3, 0, 2, MIN), MIN - 15);
        // Of -1073741823 it rolls -2147483660, which wraps to 2147483636; of 5 it seeps -24 ^ 17, which is -7.
        due("a butt's of both", act(3, 0, 5, 3, -1073741823), (2147483616 ^ 17 ^ -357913941) - 7);
    }

    private static void quotients() {
        says("Quotients are cut towards 0.");
        int[][] byTwo = {{5, 2}, {1, 0}, {0, 0}, {-1, 0}, {-5, -2}, {MIN, -1073741824}};
        for (int[] q : byTwo) due(q[0] + " by 2", act(2, 0, 4, 2, q[0]), q[1]);
        int[][] byMinusTwo = {{5, -2}, {1, 0}, {-1, 0}, {-5, 2}, {MAX, -1073741823}};
        for (int[] q : byMinusTwo) due(q[0] + " by -2", act(2, 0, 0, 2, q[0]), q[1]);
        due("thrice a cut one", act(4, 0, 4, 2, -5), -6);
    }

    private static void partedBy0() {
        says("(-15 if that is 0; that is all that act() answers then)");
        int[][] places = {{0, 2}, {1, 1}, {2, 0}};
        for (int[] p : places) {
            for (int kind = 1; kind <= 5; kind++) {
                for (int x : new int[] {0, 1, MIN}) {
                    due("hoops of KIND " + kind + ", number " + p[0], act(kind, p[0], p[1], 2, x), -15);
                    due("floods of KIND " + kind + ", number " + p[0], act(kind, p[0], p[1], 3, x), -15);
                }
            }
            due("rolls", act(2, p[0], p[1], 0, 1), 2 + 3 * p[0]);
            due("seeps", act(2, p[0], p[1], 1, 1), 2 + 3 * p[0] - 4 * p[1] ^ 17);
        }
        FloodCellar y = shelved(5, 0, 2);
        due("parted by 0", y.act(0, 3, 1), -15);
        due("rolls behind it", y.act(0, 0, 1), 2);
        due("its TRACE", y.trace(0), 10);
        due("seeps behind it", y.act(0, 1, 1), 6);
        y.change(0, 3, 1);
        due("by -1 behind it", y.act(0, 2, 1), -3);
        due("by 1", act(2, 1, 2, 2, -15), -15);
        due("by -1", act(2, 1, 0, 2, 8), -8);
        due("number 2 in TIER 1", act(2, 2, 1, 2, 8), 8);
        due("the most that it is parted by", act(2, 5, 5, 2, 17), 2);
    }

    private static void actCall() {
        says("An ACT (0 to 3) of the thing on a SHELF, with x. 0, and no TRACE then: no such SHELF, act, nothing, a row.");
        FloodCellar x = shelved(1, 0, 0);
        x.sheet(0, 0, 3);
        x.shelf(1, 1, 0);
        int[][] none = {{-1, 0}, {4, 0}, {MIN, 0}, {MAX, 0}, {0, -1}, {0, 4}, {0, MIN}, {0, MAX}, {1, 0}, {1, 3}, {2, 0}, {3, 2}};
        for (int[] n : none) {
            due("one that ran", x.act(0, 0, 1), 18);
            due("its TRACE", x.many(6), 2);
            due("SHELF " + n[0] + ", act " + n[1], x.act(n[0], n[1], 5), 0);
            due("bodies", x.many(6), 0);
            due("no TRACE", x.trace(0), NONE);
        }
        due("the least act", x.act(0, 0, 1), 18);
        due("the most", x.act(0, 3, 1), 18 ^ 0);
    }

    private static void traced(FloodCellar x, String what, int... bodies) {
        due("bodies, " + what, x.many(6), bodies.length);
        for (int i = 0; i < bodies.length; i++) due(what + ", body " + i, x.trace(i), bodies[i]);
        due(what + ", one more", x.trace(bodies.length), NONE);
    }

    private static void tracesOfActs() {
        says("THE TRACE: numbers of the bodies that ran in the latest act(), as they began (left first); the first 30 are kept.");
        FloodCellar x = shelved(3, 5, 5);
        traced(x, "ahead of all");
        x.act(0, 3, 1);
        traced(x, "the longest", 51, 13, 30, 11, 50, 10, 12, 30, 11, 50, 10);
        x.act(0, 0, 1);
        traced(x, "a shorter one behind it", 50, 10);
        x.tide();
        x.taken(0, 0);
        x.shelf(0, 2, 0);
        traced(x, "other calls change nothing of it", 50, 10);
        FloodCellar y = shelved(5, 2, 0);
        y.act(0, 3, 1);
        traced(y, "parted by 0: those that had begun", 13, 60, 11, 10, 61, 40, 12);
        FloodCellar z = shelved(3, 2, 0);
        z.act(0, 3, 1);
        traced(z, "parted by 0 in floods", 51, 13, 30, 11, 50, 10, 12);
    }

    private static void traceCall() {
        says("THE TRACE's i-th body. NONE.");
        FloodCellar x = shelved(1, 0, 0);
        for (int i : new int[] {0, -1, 1, 29, 30, MIN, MAX}) due("none ran, " + i, x.trace(i), NONE);
        x.act(0, 0, 1);
        due("the first", x.trace(0), 20);
        due("the last", x.trace(1), 10);
        for (int i : new int[] {-1, 2, 29, 30, MIN, MAX}) due("i " + i, x.trace(i), NONE);
    }

    private static void manyCall() {
        says("6 bodies of THE TRACE (those kept, 30 at most). BAD: another what.");
        FloodCellar x = new FloodCellar();
        for (int what = 0; what < 7; what++) due("none, what " + what, x.many(what), 0);
        for (int what : new int[] {-1, 7, 8, MIN, MAX}) due("what " + what, x.many(what), BAD);
        for (int k = 0; k < 6; k++) {
            x.barrel(3, 9, 0, 5);
            x.change(k, 4, 1);
            x.report(0, 0, 0, 0);
        }
        tell(x, "vat leave;".repeat(8));
        x.prove(4);
        feed(x, "x".repeat(200));
        x.shelf(0, 0, 5);
        x.act(0, 3, 1);
        int[] most = {6, 8, 6, 6, 4, 200, 11};
        for (int what = 0; what < 7; what++) due("the most, what " + what, x.many(what), most[what]);
    }
}
