/** Boundary sentences of promises 51 and 52. */
public final class KeptEdgesTest extends Cellars {
    private static final Sentences S = new Sentences("KeptEdgesTest");

    public static void main(String[] args) {
        againWithoutKeep();
        keptNew();
        keptFull();
        keptReports();
        keptLatest();
        notKept();
        S.end();
    }

    private static void says(String words) {
        S.says(words);
    }

    private static void due(String call, int got, int want) {
        S.due(call, got, want);
    }

    private static void againWithoutKeep() {
        says("NONE: nothing is kept.");
        FloodCellar x = new FloodCellar();
        due("at first", x.again(), NONE);
        x.barrel(1, 9, 0, 0);
        due("with a BARREL", x.again(), NONE);
        due("it stays", x.many(0), 1);
        x.keep();
        due("behind keep()", x.again(), 1);
    }

    private static void keptNew() {
        says("All but THE TAPE, ROWS, SHEETS, SHELVES, THE TRACE is kept: 1.");
        FloodCellar x = new FloodCellar();
        due("of a new object", x.keep(), 1);
        fill(x);
        due("no BARRELS", x.again(), 0);
        due("END", x.state(1), 12);
        for (int what : new int[] {0, 2, 3, 4, 6}) due("state " + what, x.state(what), 0);
        due("RULES", x.many(1), 0);
        due("REPORTS", x.many(3), 0);
        for (int t = 0; t < 16; t++) due("WATER " + t, x.water(t, 9), 9);
        for (int f = 0; f < 6; f++) {
            due("STEP " + f, x.tierOf(f, 0), 0);
            due("GRATE " + f, x.tierOf(f, 1), 0);
        }
        due("z", x.seed(1), 1);
        due("the first BARREL has number 0", x.barrel(3, 4, 5, 1), 0);
        due("it is told by no RULE", x.barrelOf(0, 9), 0);
        due("it is not STAKED", x.barrelOf(0, 4), 0);
    }

    /** Six BARRELS, all STAKED, and all else as much as may be. */
    private static void fill(FloodCellar x) {
        x.ends(16);
        for (int k = 0; k < 6; k++) {
            x.barrel(1 + k % 5, 99, 9, k);
            x.tier(k, 0, 9);
            x.tier(k, 1, 9);
            x.report(15, 1, 16, 16);
        }
        allWater(x, 15);
        tell(x, "barrel leave;".repeat(8));
        for (int t = 0; t < 16; t++) x.tide();
        for (int k = 0; k < 6; k++) {
            x.change(k, 1, 99 - k);
            x.change(k, 4, 1);
        }
        x.seed(MIN);
    }

    private static void keptFull() {
        says("It becomes what was kept latest (which stays): how many BARRELS.");
        FloodCellar x = new FloodCellar();
        fill(x);
        x.keep();
        for (int round = 0; round < 2; round++) {
            x.anew();
            x.ends(1);
            x.forget();
            x.seed(2);
            allWater(x, 0);
            tell(x, "");
            for (int k = 0; k < 6; k++) {
                x.remake(k, 1 + (k + 1) % 5);
                x.change(k, 1, 1);
                x.change(k, 2, 1);
                x.change(k, 3, 0);
                x.tier(k, 0, 1);
                x.tier(k, 1, 1);
            }
            due("six BARRELS", x.again(), 6);
            int[] state = {16, 16, 0, 1, 63, 0, 6 * 99 - 15};
            for (int what = 0; what < 7; what++) due("state " + what, x.state(what), state[what]);
            for (int k = 0; k < 6; k++) {
                int[] barrel = {1 + k % 5, 99 - k, 9, k, 1};
                for (int what = 0; what < 5; what++) due("BARREL " + k + ", " + what, x.barrelOf(k, what), barrel[what]);
                due("WILL " + k, x.barrelOf(k, 9), 1);
                due("STEP " + k, x.tierOf(k, 0), 9);
                due("GRATE " + k, x.tierOf(k, 1), 9);
            }
            for (int t = 0; t < 16; t++) due("WATER " + t, x.water(t, 1), 15);
            due("RULES", x.many(1), 8);
            due("REPORTS", x.many(3), 6);
            due("each REPORT", x.lone(0), 0);
            due("z", x.seed(3), MIN);
            due("full as then", x.barrel(1, 1, 1, 1), FULL);
        }
    }

    private static void keptReports() {
        says("It becomes what was kept latest");
        // By RISE 2 a tun of 99 leaves 91 behind one TIDE, as does no other; butts leave 95, 91 behind two.
        int[][] others = {{2, 0, 91, 91}, {1, 1, 1, 1}, {1, 0, 90, 91}, {1, 0, 91, 95}};
        for (int[] o : others) {
            FloodCellar x = new FloodCellar();
            x.report(0, 0, 0, 99);
            x.report(1, 0, 91, 91);
            x.keep();
            x.forget();
            x.report(0, 0, 0, 99);
            x.report(o[0], o[1], o[2], Math.max(o[2], o[3]));
            x.again();
            due("REPORTS that FIT, behind " + java.util.Arrays.toString(o), x.lone(0), 10);
            due("their KIND", x.lone(1), 2);
            due("their FILL", x.lone(3), 99);
        }
        FloodCellar y = new FloodCellar();
        y.report(1, 0, 90, 91);
        y.report(1, 1, 1, 1);
        y.keep();
        y.forget();
        y.report(1, 0, 0, 98);
        y.report(1, 0, 1, 1);
        y.again();
        // Vats leave 98, 88; tuns 91 and PAY; butts 95; kegs, casks 97.
        due("each of two REPORTS", y.lone(0), 10);
        due("tuns", y.lone(1), 2);
    }

    private static void keptLatest() {
        says("It becomes what was kept latest (which stays)");
        FloodCellar x = new FloodCellar();
        x.barrel(1, 90, 0, 0);
        x.keep();
        x.tide();
        x.keep();
        x.tide();
        due("the latest", x.again() + 10 * x.state(0), 11);
        due("SCORE of it", x.state(2), 16);
        x.tide();
        due("once more", x.again() + 10 * x.state(0), 11);
        x.anew();
        due("what was kept stays behind anew()", x.again() + 10 * x.state(0), 11);
        x.barrel(2, 1, 1, 1);
        x.keep();
        due("with one more", x.again(), 2);
        x.change(1, 1, 55);
        due("what is kept doesn't change with it", x.again() + 10 * x.barrelOf(1, 1), 12);
    }

    private static void notKept() {
        says("All but THE TAPE, ROWS, SHEETS, SHELVES, THE TRACE is kept");
        FloodCellar x = new FloodCellar();
        x.barrel(1, 90, 0, 0);
        x.keep();
        feed(x, "vat leave;");
        x.prove(3);
        x.sheet(2, 2, 40);
        x.write(2, 39, MIN);
        x.shelf(3, 0, 0);
        x.act(3, 0, 1);
        x.again();
        due("THE TAPE", x.many(5), 10);
        due("ROWS", x.row(0, 1), 16);
        due("SHEETS", x.item(2, 2, 39), MIN);
        due("SHELVES", x.taken(3, 1), 0);
        due("THE TRACE", x.trace(0), 20);
        due("THE TAPE tells", x.rules(), 1);
        due("RULES weren't kept", x.again() + 10 * x.many(1), 1);
        x.keep();
        x.prove(0);
        x.sheet(2, -1, 0);
        x.shelf(3, 2, 0);
        x.act(3, 0, 1);
        x.again();
        due("no ROWS come again", x.many(4), 0);
        due("no SHEETS", x.item(2, 2, 39), -11);
        due("no SHELVES", x.taken(3, 1), -11);
        due("no TRACE", x.many(6), 0);
        due("no TAPE", x.many(5), 0);
    }
}
