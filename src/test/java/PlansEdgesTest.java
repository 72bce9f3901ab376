/** Boundary sentences of PLANS, CHARTS, BARS, GAMES and ROWS in DOC.md, and of promises 23 to 29 and 37 to 40. */
public final class PlansEdgesTest extends Cellars {
    private static final Sentences S = new Sentences("PlansEdgesTest");

    public static void main(String[] args) {
        lengths();
        firstOfBest();
        bestCall();
        ithCall();
        waysCall();
        chart();
        chartCall();
        bar();
        barsCall();
        game();
        gameCall();
        playCall();
        rows();
        proveCall();
        rowCall();
        alterRowCall();
        readerOfActs();
        readerOfTheRest();
        S.end();
    }

    private static void says(String words) {
        S.says(words);
    }

    private static void due(String call, int got, int want) {
        S.due(call, got, want);
    }

    /** A vat of FILL 90 PAYS 13 at once, or 12 later, and 3 a TIDE while it is STAKED with 90, 2 with less. */
    private static FloodCellar oneVat() {
        FloodCellar x = new FloodCellar();
        x.barrel(1, 90, 0, 0);
        return x;
    }

    private static FloodCellar vats(int fill) {
        FloodCellar x = new FloodCellar();
        for (int k = 0; k < 6; k++) x.barrel(1, fill, 0, 0);
        return x;
    }

    /** A vat of FILL 90 in a cellar that is OVER. */
    private static FloodCellar over() {
        FloodCellar x = new FloodCellar();
        x.ends(1);
        x.tide();
        x.barrel(1, 90, 0, 0);
        return x;
    }

    private static void lengths() {
        says("A PLAN of n: n TIDES (fewer, if it is OVER), ahead of each an ACT");
        FloodCellar x = oneVat();
        int[] worth = {0, 16, 19, 22, 25};
        int[] ways = {1, 1, 2, 4, 8};
        for (int end = 4; end >= 1; end--) {
            x.ends(end);
            for (int n = 0; n <= 4; n++) {
                int length = Math.min(n, end);
                due("best of " + n + ", END " + end, x.best(n), worth[length]);
                due("ways of " + n + ", END " + end, x.ways(n), ways[length]);
                for (int i = 0; i < 4; i++) {
                    due("ith of " + n + ", " + i + ", END " + end, x.ith(n, i), i >= length ? NONE : i == 0 ? 1 : 0);
                }
            }
        }
        FloodCellar z = over();
        for (int n = 0; n <= 4; n++) {
            due("best of " + n + ", OVER", z.best(n), 0);
            due("ways of " + n + ", OVER", z.ways(n), 1);
            due("ith of " + n + ", OVER", z.ith(n, 0), NONE);
        }
        FloodCellar last = atTide(15);
        last.barrel(1, 90, 0, 0);
        due("best of 4 in TIDE 15", last.best(4), 16);
        due("ith of 4 in TIDE 15", last.ith(4, 1), NONE);
        FloodCellar none = new FloodCellar();
        due("no BARRELS", none.best(4), 0);
        due("no BARRELS, the last ACT", none.ith(4, 3), 0);
        due("no BARRELS, ways", none.ways(4), 1);
    }

    private static void firstOfBest() {
        says("the FIRST of these is that with the lesser ACT where they are unlike first");
        FloodCellar x = vats(0);
        due("all PLANS of six BARRELS are BEST", x.ways(4), 7 * 7 * 7 * 7);
        for (int i = 0; i < 4; i++) due("none is told, " + i, x.ith(4, i), 0);
        FloodCellar y = vats(9);
        // Each PAYS 4, and 3 a TIDE later; so the first two ACTS may be any two, the lesser first.
        due("4 and 3", y.best(2), 7);
        due("any of six, then any of five", y.ways(2), 30);
        due("the lesser first", y.ith(2, 0), 1);
        due("the lesser then", y.ith(2, 1), 2);
        y.change(0, 1, 8);
        due("one PAYS less", y.ith(1, 0), 2);
        due("any of five", y.ways(1), 5);
        y.change(5, 1, 99);
        due("the last alone", y.ith(1, 0), 6);
        due("just one", y.ways(1), 1);
    }

    private static void bestCall() {
        says("WORTH of the BEST PLANS of n (0 to 4). BAD.");
        FloodCellar x = oneVat();
        for (int n : new int[] {-1, 5, MIN, MAX}) due("n " + n, x.best(n), BAD);
        due("n 0", x.best(0), 0);
        due("n 4", x.best(4), 25);
        for (int n : new int[] {-1, 5}) due("OVER, n " + n, over().best(n), BAD);
    }

    private static void ithCall() {
        says("The i-th (0 to 3) ACT of the FIRST of them. BAD; NONE: it has not so many.");
        FloodCellar x = oneVat();
        for (int n : new int[] {-1, 5, MIN, MAX}) due("n " + n, x.ith(n, 0), BAD);
        for (int i : new int[] {-1, 4, MIN, MAX}) {
            due("i " + i, x.ith(4, i), BAD);
            due("BAD ahead of NONE, i " + i, x.ith(0, i), BAD);
            due("BAD ahead of NONE, OVER, i " + i, over().ith(4, i), BAD);
        }
        due("the first", x.ith(4, 0), 1);
        due("the last", x.ith(4, 3), 0);
        due("n as i", x.ith(3, 3), NONE);
        due("n 0", x.ith(0, 0), NONE);
    }

    private static void waysCall() {
        says("How many of them there are. BAD.");
        FloodCellar x = oneVat();
        for (int n : new int[] {-1, 5, MIN, MAX}) due("n " + n, x.ways(n), BAD);
        due("n 0", x.ways(0), 1);
        due("n 4", x.ways(4), 8);
    }

    private static void chart() {
        says("CHART by n, a set of BARRELS: the fewest ACTS that aren't 0 in a PLAN of n behind which each of them is STAKED.");
        FloodCellar x = vats(99);
        due("none of them", x.chart(0, 0), 0);
        due("none of them in four", x.chart(4, 0), 0);
        due("one in none", x.chart(0, 1), NONE);
        due("one", x.chart(1, 32), 1);
        due("one of four", x.chart(4, 32), 1);
        due("two in one", x.chart(1, 33), NONE);
        due("two", x.chart(2, 33), 2);
        due("four", x.chart(4, 60), 4);
        due("four in three", x.chart(3, 60), NONE);
        due("five in four", x.chart(4, 31), NONE);
        due("six in four", x.chart(4, 63), NONE);
        x.change(0, 4, 1);
        x.change(5, 4, 1);
        due("two are STAKED now, none is told", x.chart(0, 33), 0);
        due("two of six are STAKED now", x.chart(4, 63), 4);
        x.ends(2);
        due("fewer TIDES, two", x.chart(4, 39), 2);
        due("fewer TIDES, three", x.chart(4, 47), NONE);
        FloodCellar z = over();
        due("OVER, none of them", z.chart(4, 0), 0);
        due("OVER, one", z.chart(4, 1), NONE);
        z.change(0, 4, 1);
        due("OVER, STAKED", z.chart(4, 1), 0);
    }

    private static void chartCall() {
        says("CHART by n (0 to 4), a set of BARRELS (of such as there are). BAD; NONE.");
        FloodCellar x = new FloodCellar();
        due("no BARRELS, none of them", x.chart(4, 0), 0);
        due("no BARRELS", x.chart(4, 1), BAD);
        for (int count = 1; count <= 6; count++) {
            x.barrel(1, 99, 0, 0);
            due("all of " + count, x.chart(4, (1 << count) - 1), count <= 4 ? count : NONE);
            due("one beyond " + count, x.chart(4, 1 << count), BAD);
            due("all and one beyond " + count, x.chart(4, (2 << count) - 1), BAD);
        }
        for (int set : new int[] {-1, 64, MIN, MAX}) due("set " + set, x.chart(4, set), BAD);
        for (int n : new int[] {-1, 5, MIN, MAX}) due("n " + n, x.chart(n, 1), BAD);
    }

    private static void bar() {
        says("BAR: the least of them that is so behind no PLAN of n.");
        FloodCellar x = vats(99);
        due("none of them", x.bars(0, 0), NONE);
        due("in no TIDE, the first", x.bars(0, 63), 0);
        due("in no TIDE, the last", x.bars(0, 32), 5);
        due("each alone may be", x.bars(1, 63), NONE);
        x.change(2, 1, 0);
        x.change(5, 1, 0);
        due("the lesser of two", x.bars(4, 63), 2);
        due("the greater alone", x.bars(4, 59), 5);
        due("those that may be", x.bars(4, 27), NONE);
        x.change(2, 4, 1);
        due("STAKED now", x.bars(4, 31), NONE);
        FloodCellar z = over();
        due("OVER", z.bars(4, 1), 0);
        z.change(0, 4, 1);
        due("OVER, STAKED", z.bars(4, 1), NONE);
        FloodCellar late = oneVat();
        tell(late, "vat if tide < 2 leave;");
        due("in two TIDES it isn't", late.bars(2, 1), 0);
        due("in three it is", late.bars(3, 1), NONE);
        late.ends(2);
        due("fewer TIDES", late.bars(4, 1), 0);
    }

    private static void barsCall() {
        says("BAR likewise. BAD; NONE: each is so behind some.");
        FloodCellar x = new FloodCellar();
        due("no BARRELS, none of them", x.bars(4, 0), NONE);
        due("no BARRELS", x.bars(4, 1), BAD);
        for (int count = 1; count <= 6; count++) {
            x.barrel(1, 99, 0, 0);
            due("all of " + count, x.bars(1, (1 << count) - 1), NONE);
            due("one beyond " + count, x.bars(1, 1 << count), BAD);
        }
        for (int set : new int[] {-1, 64, MIN, MAX}) due("set " + set, x.bars(4, set), BAD);
        for (int n : new int[] {-1, 5, MIN, MAX}) due("n " + n, x.bars(n, 1), BAD);
        due("n 5, none of them", x.bars(5, 0), BAD);
    }

    private static void game() {
        says("GAME of n: two in turn, ahead of n TIDES (till it is OVER) each an ACT (also 0)");
        FloodCellar x = new FloodCellar();
        x.barrel(1, 27, 0, 0);
        x.barrel(1, 90, 0, 0);
        // Told by the first: 13 and 3; the other one tells none: 3; then the lesser PAYS 3 and 2, and 3 for the other.
        due("one TIDE", x.game(1), 16);
        due("two", x.game(2), 19);
        due("three", x.game(3), 19 + 3 + 5);
        due("four", x.game(4), 19 + 3 + 5 + 3);
        x.ends(3);
        due("OVER behind three", x.game(4), 27);
        x.ends(1);
        due("OVER behind one", x.game(4), 16);
        due("OVER", over().game(4), 0);
        due("no BARRELS", new FloodCellar().game(4), 0);

        says("the first one wants as much WORTH as can be, the other one as little");
        FloodCellar y = oneVat();
        tell(y, "vat if tide = 0 leave;");
        // Only the other one might stake it in TIDE 1, and doesn't; the first one then does.
        due("the other one tells none", y.game(2), 0);
        due("then the first one", y.game(3), 3 + 9 + 2);
        due("then the other one again", y.game(4), 14 + 2);
    }

    private static void gameCall() {
        says("VALUE of a GAME of n (1 to 4). BAD.");
        FloodCellar x = oneVat();
        for (int n : new int[] {0, 5, -1, MIN, MAX}) due("n " + n, x.game(n), BAD);
        due("n 1", x.game(1), 16);
        due("n 4", x.game(4), 25);
        for (int n : new int[] {0, 5}) due("OVER, n " + n, over().game(n), BAD);
    }

    private static void playCall() {
        says("The least ACT by which who begins comes to it. BAD; NONE: it is OVER.");
        FloodCellar x = vats(99);
        for (int n : new int[] {0, 5, -1, MIN, MAX}) {
            due("n " + n, x.play(n), BAD);
            due("BAD ahead of NONE, n " + n, over().play(n), BAD);
        }
        due("OVER, n 1", over().play(1), NONE);
        due("OVER, n 4", over().play(4), NONE);
        due("the least of six", x.play(1), 1);
        due("the least of six, n 4", x.play(4), 1);
        for (int k = 0; k < 5; k++) x.change(k, 1, 0);
        due("the last", x.play(4), 6);
        x.change(5, 1, 0);
        due("all the same: none", x.play(4), 0);
        due("no BARRELS", new FloodCellar().play(1), 0);
        x.ends(1);
        x.change(3, 1, 9);
        due("one TIDE is left", x.play(4), 4);
    }

    private static void rows() {
        says("(ACT, what it is WORTH, BARRELS that are STAKED behind it, as a set)");
        FloodCellar x = vats(0);
        x.change(5, 1, 90);
        x.change(0, 1, 9);
        due("four", x.prove(4), 4);
        // The last first; the least leaks 1 by then, and PAYS 3.
        int[][] want = {{6, 16, 32}, {0, 3, 32}, {0, 3, 32}, {1, 6, 33}};
        due("BEST", x.best(4), 16 + 3 + 3 + 6);
        for (int k = 0; k < 4; k++) {
            for (int what = 0; what < 3; what++) due("ROW " + k + ", " + what, x.row(k, what), want[k][what]);
        }
    }

    private static void proveCall() {
        says("ROWS of the FIRST of the BEST PLANS of n (0 to 4): how many. BAD.");
        FloodCellar x = oneVat();
        due("n 4", x.prove(4), 4);
        for (int n : new int[] {-1, 5, MIN, MAX}) {
            due("n " + n, x.prove(n), BAD);
            due("ROWS stay", x.many(4), 4);
            due("the first ROW stays", x.row(0, 1), 16);
        }
        x.ends(3);
        due("fewer", x.prove(4), 3);
        due("the fourth is gone", x.row(3, 0), -9);
        due("n 0", x.prove(0), 0);
        due("all are gone", x.row(0, 0), -9);
        x.prove(2);
        x.tide();
        x.ends(1);
        due("OVER", x.prove(4), 0);
        due("none then", x.many(4), 0);
        due("no BARRELS", new FloodCellar().prove(4), 4);
    }

    private static void rowCall() {
        says("Of ROW k: what = 0 ACT, 1 WORTH, 2 those STAKED. -9: there is none such, another what.");
        FloodCellar x = oneVat();
        due("no ROWS", x.row(0, 0), -9);
        x.prove(2);
        due("the last", x.row(1, 2), 1);
        for (int k : new int[] {-1, 2, 3, 4, MIN, MAX}) due("ROW " + k, x.row(k, 0), -9);
        for (int what : new int[] {-1, 3, MIN, MAX}) due("what " + what, x.row(1, what), -9);
        due("neither", x.row(MAX, MAX), -9);
    }

    private static void alterRowCall() {
        says("It becomes v: what it was. -9 likewise.");
        FloodCellar x = oneVat();
        due("no ROWS", x.alterRow(0, 0, 1), -9);
        x.prove(2);
        for (int k : new int[] {-1, 2, 3, 4, MIN, MAX}) due("ROW " + k, x.alterRow(k, 0, 7), -9);
        for (int what : new int[] {-1, 3, MIN, MAX}) due("what " + what, x.alterRow(1, what, 7), -9);
        due("nothing was altered", x.judge(), 0);
        int[] was = {0, 3, 1};
        for (int what = 0; what < 3; what++) {
            due("the least of all", x.alterRow(1, what, MIN), was[what]);
            due("the most of all", x.alterRow(1, what, MAX), MIN);
            due("as low as a refusal", x.alterRow(1, what, -9), MAX);
            due("it is so", x.row(1, what), -9);
        }
        due("the other ROW stays", x.row(0, 0) + x.row(0, 1) + x.row(0, 2), 1 + 16 + 1);
    }

    private static void readerOfActs() {
        says("right is one whose ACT is one, if it isn't OVER");
        FloodCellar x = oneVat();
        x.prove(4);
        due("all is right", x.judge(), 0);
        for (int act : new int[] {-1, 2, 7, MIN, MAX}) {
            x.alterRow(0, 0, act);
            due("ACT " + act, x.judge(), 1);
        }
        x.alterRow(0, 0, 1);
        x.alterRow(3, 0, 1);
        due("one that is STAKED is told", x.judge(), 0);
        x.alterRow(3, 0, 2);
        due("one more than there are", x.judge(), 4);
        x.barrel(1, 0, 0, 0);
        due("it is there now", x.judge(), 0);
        x.ends(3);
        due("OVER ahead of the last", x.judge(), 4);
        x.ends(1);
        due("OVER ahead of the second", x.judge(), 2);
        x.tide();
        due("OVER ahead of the first", x.judge(), 1);
        FloodCellar y = new FloodCellar();
        y.keep();
        y.barrel(1, 90, 0, 0);
        y.prove(1);
        y.again();
        due("the BARREL is gone", y.judge(), 1);
    }

    private static void readerOfTheRest() {
        says("THE READER takes ROWS as such: 0 all is right; else the first ROW that isn't, and 1 more.");
        FloodCellar x = oneVat();
        due("no ROWS", x.judge(), 0);
        due("no ROWS, OVER", over().judge(), 0);
        x.prove(4);
        for (int k = 0; k < 4; k++) {
            int worth = x.row(k, 1);
            for (int v : new int[] {worth - 1, worth + 1, MIN, MAX}) {
                x.alterRow(k, 1, v);
                due("WORTH " + v + " of ROW " + k, x.judge(), k + 1);
            }
            x.alterRow(k, 1, worth);
            for (int v : new int[] {0, 2, 3, 65, -1, MIN + 1}) {
                x.alterRow(k, 2, v);
                due("STAKED " + v + " of ROW " + k, x.judge(), k + 1);
            }
            x.alterRow(k, 2, 1);
            due("right again", x.judge(), 0);
        }
        x.alterRow(1, 1, 0);
        x.alterRow(3, 0, -1);
        due("the first of two", x.judge(), 2);
        due("nothing is changed", x.state(0) + x.state(2) + x.state(4), 0);
        FloodCellar y = vats(0);
        due("a full one", y.prove(4), 4);
        y.change(0, 4, 1);
        due("STAKED otherwise than then", y.judge(), 1);
        y.change(0, 4, 0);
        y.tide();
        due("WORTH nothing later, too", y.judge(), 0);
    }
}
