/** Each promise of the document by answers counted by hand: ordinary ones, edges, wrong inputs. */
public final class PromisesTest extends Cellars {
    private static final Check CHECK = new Check("PromisesTest");

    public static void main(String[] args) {
        newObject();
        barrels();
        leaks();
        floats();
        paysAndMay();
        changes();
        waterAndTiers();
        endsAndAnew();
        states();
        tape();
        rulesThatHold();
        rulesThatFail();
        tides();
        bungs();
        restOfTides();
        bestChalkAndTier();
        dryLeastLeft();
        rafts();
        plans();
        charts();
        games();
        reports();
        lots();
        rows();
        sheets();
        sheetsOfActs();
        shelves();
        acts();
        traces();
        manyOfAll();
        keptVaults();
        CHECK.end();
    }

    private static void due(String call, int got, int want) {
        CHECK.due(call, got, want);
    }

    private static void newObject() {
        FloodCellar x = new FloodCellar();
        int[] first = {0, 12, 0, 0, 0, 9, 0};
        for (int what = 0; what < 7; what++) {
            due("1 state " + what, x.state(what), first[what]);
            due("1 many " + what, x.many(what), 0);
        }
        for (int f = 0; f < 6; f++) due("1 tierOf", x.tierOf(f, 0) + x.tierOf(f, 1), 0);
        for (int t = 0; t < 16; t++) due("1 water", x.water(t, 0), 9);
        due("1 again", x.again(), NONE);
        due("1 seed", x.seed(4), 1);
        due("1 trace", x.trace(0), NONE);
        due("1 item of a missing sheet", x.item(3, 0, 0), -11);
        due("1 taken from an empty shelf", x.taken(3, 0), -11);
    }

    private static void barrels() {
        FloodCellar x = new FloodCellar();
        int[][] wrong = {{0, 0, 0, 0}, {6, 0, 0, 0}, {1, -1, 0, 0}, {1, 100, 0, 0}, {1, 0, -1, 0}, {1, 0, 10, 0},
            {1, 0, 0, -1}, {1, 0, 0, 6}, {MIN, 0, 0, 0}, {1, MAX, 0, 0}};
        for (int[] w : wrong) due("2 wrong barrel", x.barrel(w[0], w[1], w[2], w[3]), BAD);
        due("2 none was made", x.many(0), 0);
        for (int k = 0; k < 6; k++) due("2 barrel", x.barrel(k < 5 ? k + 1 : 5, k == 0 ? 99 : k, k == 1 ? 9 : 0, k), k);
        due("2 a seventh", x.barrel(1, 0, 0, 0), FULL);
        due("2 a wrong seventh", x.barrel(1, 0, 0, 6), BAD);
        due("3 KIND", x.barrelOf(4, 0), 5);
        due("3 FILL", x.barrelOf(0, 1), 99);
        due("3 CHALK", x.barrelOf(1, 2), 9);
        due("3 TIER", x.barrelOf(5, 3), 5);
        due("3 STAKED", x.barrelOf(5, 4), 0);
        due("3 another what", x.barrelOf(0, 10), BAD);
        due("3 what -1", x.barrelOf(0, -1), BAD);
        due("3 no such", x.barrelOf(6, 0), BAD);
        due("3 number -1", x.barrelOf(-1, 0), BAD);
    }

    private static void leaks() {
        FloodCellar x = new FloodCellar();
        for (int kind = 1; kind <= 5; kind++) x.barrel(kind, 0, 0, 1);
        int[][] byWater = {{0, 1, 4, 0, 0, 0}, {14, 1, 10, 6, 6, 6}, {15, 1, 10, 6, 9, 9}, {4, 1, 6, 2, 0, 0}};
        for (int[] row : byWater) {
            x.water(0, row[0]);
            for (int kind = 1; kind <= 5; kind++) due("3 LEAKS of " + kind + " by " + row[0], x.barrelOf(kind - 1, 5), row[kind]);
        }
        x.tier(1, 1, 3);
        due("3 LEAKS and GRATE", x.barrelOf(1, 5), 9);
        x.barrel(1, 50, 0, 0);
        x.change(5, 4, 1);
        due("3 LEAKS above a STAKED one", x.barrelOf(1, 5), 7);
        x.change(2, 3, 0);
        x.change(2, 4, 1);
        due("3 LEAKS above two", x.barrelOf(1, 5), 5);
        due("3 LEAKS 0 at least", x.barrelOf(0, 5), 0);
        due("3 LEAKS though it is STAKED", x.barrelOf(2, 5), 2);
        x.change(3, 3, 2);
        due("3 LEAKS, two TIERS above", x.barrelOf(3, 5), 0);
        FloodCellar late = new FloodCellar();
        late.barrel(5, 0, 0, 0);
        for (int t = 0; t < 9; t++) late.tide();
        due("3 LEAKS of a cask at TIDE 9", late.barrelOf(0, 5), 4);
        late.ends(16);
        for (int t = 9; t < 16; t++) late.tide();
        due("3 LEAKS behind TIDE 15", late.barrelOf(0, 5), 4);
    }

    private static void floats() {
        FloodCellar x = new FloodCellar();
        for (int kind = 1; kind <= 5; kind++) x.barrel(kind, 0, 9, 1);
        int[][] byFill = {{0, 0, 4, 7, 13, 9}, {10, 0, 4, 7, 13, 9}, {11, 0, 4, 7, 12, 9}, {54, 0, 2, 5, 9, 9},
            {98, 0, 0, 3, 5, 9}, {99, 0, 0, 3, 4, 8}};
        for (int[] row : byFill) {
            for (int k = 0; k < 5; k++) {
                x.change(k, 1, row[0]);
                due("3 FLOATS of " + (k + 1) + " by " + row[0], x.barrelOf(k, 6), row[k + 1]);
            }
        }
        x.change(2, 2, 5);
        due("3 FLOATS of a butt, CHALK 5", x.barrelOf(2, 6), 1);
        x.change(3, 2, 5);
        due("3 FLOATS of a keg, CHALK 5", x.barrelOf(3, 6), 2);
    }

    private static void paysAndMay() {
        FloodCellar x = new FloodCellar();
        x.barrel(1, 99, 0, 0);
        due("3 PAYS", x.barrelOf(0, 7), 14);
        x.change(0, 1, 8);
        due("3 PAYS by a ninth", x.barrelOf(0, 7), 3);
        x.change(0, 1, 0);
        due("3 PAYS without FILL", x.barrelOf(0, 7), 0);
        due("3 MAY without FILL", x.barrelOf(0, 8), 0);
        x.change(0, 1, 1);
        due("3 MAY", x.barrelOf(0, 8), 1);
        x.change(0, 4, 1);
        due("3 PAYS though STAKED", x.barrelOf(0, 7), 0);
        due("3 MAY though STAKED", x.barrelOf(0, 8), 0);
        x.barrel(4, 75, 2, 3);
        x.water(0, 12);
        x.tier(3, 0, 2);
        due("3 FLOATS and RISE above STEP", x.barrelOf(1, 7), 0);
        x.tier(3, 0, 3);
        due("3 FLOATS and RISE as STEP", x.barrelOf(1, 7), 11);
        tell(x, "keg leave;");
        due("3 MAY against its WILL", x.barrelOf(1, 8), 0);
        due("3 PAYS against its WILL", x.barrelOf(1, 7), 11);
    }

    private static void changes() {
        FloodCellar x = new FloodCellar();
        x.barrel(3, 7, 8, 2);
        due("4 FILL", x.change(0, 1, 99), 7);
        due("4 FILL again", x.change(0, 1, 0), 99);
        due("4 CHALK", x.change(0, 2, 9), 8);
        due("4 TIER", x.change(0, 3, 5), 2);
        due("4 STAKED", x.change(0, 4, 1), 0);
        due("4 STAKED again", x.change(0, 4, 1), 1);
        due("4 not STAKED", x.change(0, 4, 0), 1);
        due("4 none is STAKED", x.state(4), 0);
        int[][] wrong = {{0, 1, 100}, {0, 1, -1}, {0, 2, 10}, {0, 2, -1}, {0, 3, 6}, {0, 3, -1}, {0, 4, 2}, {0, 4, -1},
            {0, 0, 1}, {0, 5, 1}, {1, 1, 1}, {-1, 1, 1}};
        for (int[] w : wrong) due("4 wrong change", x.change(w[0], w[1], w[2]), BAD);
        due("4 FILL is as it was", x.barrelOf(0, 1), 0);
        due("4 CHALK is as it was", x.barrelOf(0, 2), 9);
        due("4 TIER is as it was", x.barrelOf(0, 3), 5);
        due("5 remake", x.remake(0, 1), 3);
        due("5 remake again", x.remake(0, 5), 1);
        due("5 the KIND that it is", x.remake(0, 5), 5);
        due("5 KIND", x.barrelOf(0, 0), 5);
        due("5 KIND 0", x.remake(0, 0), BAD);
        due("5 KIND 6", x.remake(0, 6), BAD);
        due("5 no such", x.remake(1, 1), BAD);
        due("5 CHALK stays", x.barrelOf(0, 2), 9);
    }

    private static void waterAndTiers() {
        FloodCellar x = new FloodCellar();
        due("6 water", x.water(15, 15), 9);
        due("6 water again", x.water(15, 0), 15);
        due("6 TIDE 16", x.water(16, 0), BAD);
        due("6 TIDE -1", x.water(-1, 0), BAD);
        due("6 WATER 16", x.water(0, 16), BAD);
        due("6 WATER -1", x.water(0, -1), BAD);
        due("7 STEP of the lowest", x.tier(0, 0, 4), 0);
        due("8 STEP of the lowest", x.tierOf(0, 0), 4);
        due("7 STEP", x.tier(5, 0, 9), 0);
        due("7 GRATE", x.tier(5, 1, 8), 0);
        due("7 STEP again", x.tier(5, 0, 1), 9);
        due("7 TIER 6", x.tier(6, 0, 1), BAD);
        due("7 TIER -1", x.tier(-1, 0, 1), BAD);
        due("7 another what", x.tier(0, 2, 1), BAD);
        due("7 what -1", x.tier(0, -1, 1), BAD);
        due("7 STEP 10", x.tier(0, 0, 10), BAD);
        due("7 GRATE -1", x.tier(0, 1, -1), BAD);
        due("8 STEP", x.tierOf(5, 0), 1);
        due("8 GRATE", x.tierOf(5, 1), 8);
        due("8 TIER 6", x.tierOf(6, 0), BAD);
        due("8 TIER -1", x.tierOf(-1, 0), BAD);
        due("8 another what", x.tierOf(0, 2), BAD);
        due("8 what -1", x.tierOf(0, -1), BAD);
    }

    private static void endsAndAnew() {
        FloodCellar x = open();
        x.barrel(1, 90, 4, 0);
        x.tide();
        x.tide();
        x.tide();
        due("9 below TIDE", x.ends(2), STATE);
        due("9 END 0", x.ends(0), BAD);
        due("9 END 17", x.ends(17), BAD);
        due("9 END as TIDE", x.ends(3), 12);
        due("9 then it is OVER", x.state(3), 1);
        due("9 END 16", x.ends(16), 3);
        due("9 not OVER any more", x.state(3), 0);
        due("10 SCORE before", x.state(2), 22);
        due("10 anew", x.anew(), 3);
        due("10 TIDE", x.state(0), 0);
        due("10 SCORE", x.state(2), 0);
        due("10 STAKED", x.state(4), 0);
        due("10 FILL stays", x.barrelOf(0, 1), 90);
        due("10 CHALK stays", x.barrelOf(0, 2), 4);
        due("10 END stays", x.state(1), 16);
    }

    private static void states() {
        FloodCellar x = open();
        x.barrel(1, 90, 4, 0);
        x.barrel(2, 5, 4, 1);
        x.water(1, 13);
        x.tide();
        int[] want = {1, 12, 16, 0, 1, 13, 90};
        for (int what = 0; what < 7; what++) due("11 state " + what, x.state(what), want[what]);
        due("11 what 7", x.state(7), BAD);
        due("11 what -1", x.state(-1), BAD);
        x.ends(16);
        for (int t = 1; t < 16; t++) x.tide();
        due("11 WATER behind TIDE 15", x.state(5), 0);
        due("11 TIDE at the end", x.state(0), 16);
        for (int k = 2; k < 6; k++) x.barrel(1, 99, 0, 5);
        due("11 FILL of six", x.state(6), 90 + 4 * 99);
        x.anew();
        due("11 FILL of six behind a TIDE", x.tide() * 0 + x.state(6), 90 + 4 * 98);
    }

    private static void tape() {
        FloodCellar x = new FloodCellar();
        due("12 n 0", x.feed(0, 0), BAD);
        due("12 n 9", x.feed(0, 9), BAD);
        due("12 the lowest first", x.feed('v' | 'a' << 8 | 't' << 16, 3), 3);
        due("12 more", x.feed(0x3B6576_61656C_20L, 8), 11);
        x.feed(0, 1);
        due("13 FAULT at the byte behind the text", x.rules(), -110);
        due("13 it is used up", x.many(5), 0);
        for (int i = 0; i < 25; i++) due("12 eight", x.feed(0x2020202020202020L, 8), 8 * i + 8);
        due("12 one too many", x.feed(32, 1), FULL);
        due("12 BAD ahead of FULL", x.feed(32, 9), BAD);
        due("12 it has", x.many(5), 200);
        due("13 blanks alone", x.rules(), 0);
        due("12 a byte above 127", x.feed(-1, 8), 8);
        due("13 a byte above 127", x.rules(), -100);
    }

    private static void rulesThatHold() {
        FloodCellar x = open();
        for (int kind = 1; kind <= 5; kind++) x.barrel(kind, 10 * kind, kind, 0);
        wills(x, "", 0, "00000");
        wills(x, "barrel bung;", 1, "22222");
        wills(x, "tun leave;", 1, "01100");
        wills(x, "keg bung;", 1, "00022");
        wills(x, "butt leave;cask bung;vat leave;", 3, "10102");
        wills(x, "tun stake;barrel leave;", 2, "10011");
        wills(x, "barrel if fill<30 leave;", 1, "11000");
        wills(x, "barrel if fill=30 leave;", 1, "00100");
        wills(x, "barrel if 30<fill leave;barrel if chalk>1 bung;", 2, "02211");
        wills(x, "barrel if number>2bung;", 1, "00022");
        wills(x, "barrel if tide=0 and rise=2 leave;", 1, "11111");
        wills(x, "barrel if tide>0 or rise<2 leave;", 1, "00000");
        wills(x, "barrel if not fill<30 leave;", 1, "00111");
        wills(x, "barrel if not not fill<30 leave;", 1, "11000");
        wills(x, "barrel if not fill<30 and chalk<5 leave;", 1, "00110");
        wills(x, "barrel if not(fill<30 or chalk>4)leave;", 1, "00110");
        wills(x, "barrel if fill=10 or fill=20 and chalk=9 leave;", 1, "10000");
        wills(x, "barrel if (fill=10 or fill=20) and chalk=2 leave;", 1, "01000");
        wills(x, "barrel if chalk=1 and fill=99 or fill=50 leave;", 1, "00001");
        wills(x, "barrel if (((fill=50))) leave;", 1, "00001");
        wills(x, "barrel if (fill=50) or (fill=10) or (fill=20) or (fill=30) leave;", 1, "11101");
        wills(x, "barrel if fill<0009 leave;barrel if 9999>fill bung;", 2, "22222");
        wills(x, "  vat   leave  ;  ", 1, "10000");
        wills(x, "vat leave;vat leave;vat leave;vat leave;vat leave;vat leave;vat leave;tun bung;", 8, "12200");
        wills(x, "vat leave;vat leave;vat leave;vat leave;vat leave;vat leave;vat leave;keg if fill=50 bung;", 8, "10002");
        wills(x, "barrel if 0 = tide leave;", 1, "11111");
        wills(x, "cask if not ( tide > 3 ) and not rise = 1 bung ;", 1, "00002");
        x.lot();
        x.lot();
        x.water(2, 4);
        x.change(0, 1, 2);
        x.change(1, 2, 2);
        wills(x, "barrel if tide=2 and rise=1 leave;", 1, "11111");
        wills(x, "barrel if fill=tide or tide=chalk leave;", 1, "11000");
        wills(x, "barrel if number=tide leave;", 1, "00100");
    }

    private static void wills(FloodCellar x, String text, int rules, String wills) {
        due("13 " + text, tell(x, text), rules);
        due("13 how many of " + text, x.many(1), rules);
        for (int k = 0; k < wills.length(); k++) due("3 WILL " + k + " by " + text, x.barrelOf(k, 9), wills.charAt(k) - '0');
    }

    private static void rulesThatFail() {
        fault("vat", 3);
        fault("vat ", 4);
        fault("vat leave", 9);
        fault("vat leave  ", 11);
        fault("vat leave; ;", 11);
        fault("vats leave;", 0);
        fault(" Vat leave;", 1);
        fault("vatz leave;", 0);
        fault("stake leave;", 0);
        fault("12345 leave;", 0);
        fault("vat if fill<3 if;", 14);
        fault("vat if fill < (3) leave;", 14);
        fault(";".repeat(200), 0);
        fault("leave;", 0);
        fault("7;", 0);
        fault("vat leaves;", 4);
        fault("vatleave;", 0);
        fault("vat barrel;", 4);
        fault("vat leave leave;", 10);
        fault("vat leave,", 9);
        fault("vat if", 6);
        fault("vat if leave;", 7);
        fault("vat if fill leave;", 12);
        fault("vat if fill < leave;", 14);
        fault("vat if fill < 3;", 15);
        fault("vat if fill < 3 4 leave;", 16);
        fault("vat if fill <= 3 leave;", 13);
        fault("vat if fill < 12345 leave;", 14);
        fault("vat if 00000 < 3 leave;", 7);
        fault("vat if not leave;", 11);
        fault("vat if fill not < 3 leave;", 12);
        fault("vat if fill < 3 and leave;", 20);
        fault("vat if fill < 3 or and tide = 1 leave;", 19);
        fault("vat if ((((fill<3)))) leave;", 10);
        fault("vat if ( ( not ( ( fill < 3 ) ) ) ) leave;", 17);
        fault("vat if (fill<3 leave;", 15);
        fault("vat if fill<3) leave;", 13);
        fault("vat if () leave;", 8);
        fault("vat if (fill) < 3 leave;", 12);
        fault("vat if salt = 3 leave;", 7);
        fault("vat leave;\tvat leave;", 10);
        fault("vat leave;vat leave;vat leave;vat leave;vat leave;vat leave;vat leave;vat leave; vat leave;", 81);
        fault("vat leave;vat leave;vat leave;vat leave;vat leave;vat leave;vat leave;vat leave; ;", 81);
        StringBuilder nots = new StringBuilder("vat if ");
        while (nots.length() < 196) nots.append("not ");
        fault(nots.toString(), nots.length());
    }

    private static void fault(String text, int place) {
        FloodCellar x = new FloodCellar();
        x.barrel(1, 3, 3, 3);
        tell(x, "vat bung;");
        due("13 FAULT of " + text, tell(x, text), -100 - place);
        due("13 RULES stay behind " + text, x.barrelOf(0, 9), 2);
        due("13 how many stay behind " + text, x.many(1), 1);
        due("13 THE TAPE behind " + text, x.many(5), 0);
    }

    private static void tides() {
        FloodCellar x = open();
        x.barrel(1, 65, 0, 0);
        x.barrel(2, 64, 0, 1);
        x.tier(1, 1, 7);
        due("14 the least is STAKED", x.tide(), 12);
        due("14 STAKED", x.state(4), 1);
        // The tun LEAKS 8 and GRATE 7, less 2 for the vat below it.
        due("14 FILL of who isn't STAKED", x.barrelOf(1, 1), 51);
        due("14 the next is STAKED", x.tide(), 3 + 5 + 2 + 1);
        due("14 a third is lost", x.barrelOf(1, 1), 47);
        due("14 none is told", x.tide(), 3);
        due("14 SCORE", x.state(2), 26);
        x.ends(3);
        due("14 OVER", x.tide(), STATE);
        due("14 TIDE stays", x.state(0), 3);
        FloodCellar low = new FloodCellar();
        low.barrel(2, 5, 0, 0);
        due("14 it doesn't PAY", low.tide(), 0);
        due("14 FILL 0 at least", low.barrelOf(0, 1), 0);
        for (int k = 1; k < 6; k++) low.barrel(k, 0, 0, k);
        due("14 none of six PAYS", low.tide(), 0);
    }

    private static void bungs() {
        FloodCellar x = open();
        x.barrel(1, 50, 6, 0);
        x.barrel(1, 97, 8, 0);
        x.barrel(1, 40, 1, 0);
        x.water(1, 8);
        tell(x, "vat if number < 2 bung; vat leave;");
        due("14 THE REST tells no bung", x.tide(), 0);
        x.sheet(0, 0, 5);
        x.write(0, 0, 1);
        due("44 bung by SALT 0", x.goAll(0, 0, 1), 1);
        due("44 bung: CHALK", x.barrelOf(0, 2), 8);
        due("44 bung: FILL", x.barrelOf(0, 1), 50 - 1 + 3 - 1);
        due("44 bung: not STAKED", x.state(4), 0);
        x.write(0, 0, 2);
        due("44 bung by SALT 1", x.goAll(0, 0, 1), 0);
        due("44 bung: CHALK 9 at most", x.barrelOf(1, 2), 9);
        due("44 bung: FILL 99 at most", x.barrelOf(1, 1), 97);
        x.change(1, 1, 98);
        x.goAll(0, 0, 1);
        due("44 bung: FILL 99 at most, then it leaks", x.barrelOf(1, 1), 98);
        x.write(0, 0, 3);
        due("44 leave", x.goAll(0, 0, 1), 0);
        due("44 leave: CHALK", x.barrelOf(2, 2), 1);
        x.change(0, 4, 1);
        x.write(0, 0, 1);
        due("44 one that is STAKED does nothing", x.goAll(0, 0, 1), 1);
        due("44 its CHALK", x.barrelOf(0, 2), 8);
    }

    private static void restOfTides() {
        FloodCellar x = open();
        x.barrel(1, 65, 0, 0);
        x.barrel(2, 64, 0, 1);
        x.tier(1, 1, 7);
        due("15 none", x.on(0), 0);
        due("15 two", x.on(2), 23);
        due("15 three", x.on(3), 26);
        due("15 n 17", x.on(17), BAD);
        due("15 n -1", x.on(-1), BAD);
        due("15 nothing is changed", x.state(0) + x.state(4) + x.state(2), 0);
        x.ends(2);
        due("15 fewer", x.on(16), 23);
        due("16 the first", x.when(0), 0);
        due("16 the next", x.when(1), 1);
        x.ends(1);
        due("16 it is OVER too soon", x.when(1), NONE);
        due("16 no such", x.when(2), BAD);
        due("16 number -1", x.when(-1), BAD);
        x.tide();
        due("16 it is now", x.when(0), NONE);
        due("15 it is OVER", x.on(16), 0);
    }

    private static void bestChalkAndTier() {
        FloodCellar x = new FloodCellar();
        x.barrel(4, 77, 9, 0);
        x.water(0, 0);
        x.ends(1);
        // It FLOATS 2 and half of CHALK; STEP 0 bears 4, so CHALK 0 to 5 are WORTH the same.
        due("17 the least of several", x.chalkFor(0), 0);
        tell(x, "barrel if chalk < 3 leave;");
        due("17 by THE RULES", x.chalkFor(0), 3);
        x.tier(0, 0, 9);
        tell(x, "barrel if chalk < 9 leave;");
        due("17 CHALK 9", x.chalkFor(0), 9);
        x.tier(0, 0, 0);
        tell(x, "");
        due("17 CHALK stays", x.barrelOf(0, 2), 9);
        due("17 no such", x.chalkFor(1), BAD);
        due("17 number -1", x.chalkFor(-1), BAD);
        x.change(0, 2, 8);
        due("18 none is WORTH anything", x.tierFor(0), 0);
        x.tier(3, 0, 2);
        x.tier(5, 0, 9);
        due("18 the least of several", x.tierFor(0), 3);
        x.tier(3, 1, 59);
        x.tier(3, 1, 9);
        x.change(0, 1, 62);
        x.tier(3, 0, 9);
        // In TIER 3 a third of GRATE 9 is lost, so FILL is below 60 there.
        due("18 by GRATE", x.tierFor(0), 5);
        due("18 TIER stays", x.barrelOf(0, 3), 0);
        due("18 no such", x.tierFor(1), BAD);
        due("18 number -1", x.tierFor(-1), BAD);
    }

    private static void dryLeastLeft() {
        FloodCellar x = new FloodCellar();
        x.barrel(2, 16, 0, 0);
        x.barrel(1, 99, 0, 0);
        due("19 two TIDES of 8", x.dry(0), 2);
        due("19 never", x.dry(1), NONE);
        x.change(0, 1, 96);
        x.tier(0, 1, 0);
        x.change(1, 4, 1);
        x.water(0, 12);
        due("19 staked it lasts", x.dry(0), NONE);
        tell(x, "tun leave;");
        due("19 10 and 11 times 8 is more than 96", x.dry(0), 12);
        x.change(0, 1, 99);
        due("19 it is OVER before", x.dry(0), NONE);
        x.change(0, 1, 0);
        due("19 now", x.dry(0), 0);
        x.lot();
        due("19 now, at TIDE 1", x.dry(0), 1);
        x.ends(1);
        due("19 now, though it is OVER", x.dry(0), 1);
        due("19 no such", x.dry(2), BAD);
        due("19 number -1", x.dry(-1), BAD);
        least();
        left();
    }

    private static void least() {
        FloodCellar x = new FloodCellar();
        x.barrel(4, 50, 9, 2);
        x.water(0, 12);
        due("20 FLOATS 9, RISE 3", x.least(0), 8);
        tell(x, "keg leave;");
        due("20 WILL doesn't count", x.least(0), 8);
        x.change(0, 1, 40);
        due("20 STEP 9", x.least(0), 9);
        x.change(0, 1, 30);
        due("20 with none", x.least(0), NONE);
        x.change(0, 1, 99);
        x.change(0, 2, 0);
        due("20 STEP 0", x.least(0), 0);
        x.change(0, 4, 1);
        due("20 STAKED", x.least(0), NONE);
        x.change(0, 4, 0);
        x.change(0, 1, 0);
        due("20 FILL 0", x.least(0), NONE);
        due("20 no such", x.least(1), BAD);
        due("20 number -1", x.least(-1), BAD);
        due("20 STEP stays", x.tierOf(2, 0), 0);
    }

    private static void left() {
        FloodCellar x = open();
        x.barrel(1, 65, 0, 0);
        x.barrel(2, 64, 0, 1);
        x.tier(1, 1, 7);
        due("21 FILL now", x.left(0, 0), 129);
        due("21 FILL behind one", x.left(1, 0), 116);
        due("21 FILL behind two", x.left(2, 0), 112);
        due("21 STAKED now", x.left(0, 1), 0);
        due("21 STAKED behind one", x.left(1, 1), 1);
        due("21 STAKED behind two", x.left(2, 1), 3);
        x.ends(1);
        due("21 fewer", x.left(16, 1), 1);
        due("21 n 17", x.left(17, 0), BAD);
        due("21 n -1", x.left(-1, 0), BAD);
        due("21 another what", x.left(0, 2), BAD);
        due("21 what -1", x.left(0, -1), BAD);
        due("21 nothing is changed", x.state(6), 129);
    }

    private static void rafts() {
        FloodCellar x = new FloodCellar();
        due("22 none", x.rafts(-1), 0);
        x.barrel(4, 99, 0, 0);
        x.barrel(4, 99, 2, 0);
        x.barrel(4, 99, 3, 1);
        x.barrel(4, 99, 4, 1);
        x.barrel(4, 99, 8, 2);
        x.barrel(1, 99, 8, 3);
        // FLOATS 0, 1, 1, 2, 4, 0: 5 hangs on 0 and 1, 1 on 2, 2 on 3; 4 is alone.
        due("22 how many", x.rafts(-1), 2);
        for (int k = 0; k < 6; k++) due("22 of " + k, x.rafts(k), k == 4 ? 16 : 47);
        x.change(2, 4, 1);
        due("22 one less holds them", x.rafts(-1), 3);
        due("22 of 3", x.rafts(3), 8);
        due("22 of 5", x.rafts(5), 35);
        due("22 STAKED", x.rafts(2), 0);
        due("22 what -2", x.rafts(-2), BAD);
        due("22 what 6", x.rafts(6), BAD);
        FloodCellar few = new FloodCellar();
        few.barrel(1, 0, 0, 0);
        due("22 one alone", few.rafts(-1), 1);
        due("22 its own RAFT", few.rafts(0), 1);
        due("22 no such BARREL", few.rafts(1), BAD);
        few.barrel(4, 0, 0, 1);
        due("22 two alone", few.rafts(-1), 2);
        few.change(1, 3, 0);
        due("22 two of a TIER", few.rafts(0), 3);
    }

    private static void plans() {
        FloodCellar x = open();
        x.barrel(1, 27, 0, 0);
        x.barrel(1, 36, 0, 0);
        // Staked: the first PAYS 6, or 5 a TIDE later; the other one 7, then 6, and 1 more a TIDE from 30 on.
        due("23 none", x.best(0), 0);
        due("24 none", x.ith(0, 0), NONE);
        due("25 none", x.ways(0), 1);
        due("23 one", x.best(1), 8);
        due("24 one", x.ith(1, 0), 2);
        due("25 one", x.ways(1), 1);
        due("23 two", x.best(2), 14);
        due("24 two, first", x.ith(2, 0), 2);
        due("24 two, second", x.ith(2, 1), 1);
        due("24 not so many", x.ith(2, 2), NONE);
        due("25 two", x.ways(2), 1);
        due("23 three", x.best(3), 15);
        // Then either once more told, or none, or a TIDE without an ACT ahead of the first: 0, 1, 2 in one place.
        due("24 three, first", x.ith(3, 0), 2);
        due("24 three, second", x.ith(3, 1), 0);
        due("24 three, third", x.ith(3, 2), 1);
        due("25 three", x.ways(3), 5);
        due("23 n 5", x.best(5), BAD);
        due("23 n -1", x.best(-1), BAD);
        due("24 n 5", x.ith(5, 0), BAD);
        due("24 i 4", x.ith(4, 4), BAD);
        due("24 i -1", x.ith(4, -1), BAD);
        due("25 n 5", x.ways(5), BAD);
        due("25 n -1", x.ways(-1), BAD);
        x.ends(1);
        due("23 fewer", x.best(4), 8);
        due("24 fewer", x.ith(4, 1), NONE);
        due("25 fewer", x.ways(4), 1);
        due("23 nothing is changed", x.state(0) + x.state(2) + x.state(4), 0);
        FloodCellar none = new FloodCellar();
        due("25 of no BARRELS", none.ways(4), 1);
        FloodCellar dull = new FloodCellar();
        dull.barrel(1, 0, 0, 0);
        dull.barrel(1, 0, 0, 0);
        due("25 all are BEST", dull.ways(4), 81);
        due("24 the FIRST of all", dull.ith(4, 3), 0);
    }

    private static void charts() {
        FloodCellar x = open();
        x.barrel(1, 30, 0, 0);
        x.barrel(4, 40, 0, 1);
        x.barrel(1, 0, 0, 0);
        x.tier(1, 0, 4);
        tell(x, "keg if chalk < 3 bung;");
        // Bunged twice the keg FLOATS 8, or 7 if the vat below holds it, and RISE is 2.
        due("26 none of them", x.chart(4, 0), 0);
        due("26 one", x.chart(1, 1), 1);
        due("26 it is bunged first, too light", x.chart(4, 2), NONE);
        x.tier(1, 0, 5);
        due("26 the vat first, bunged twice, then staked", x.chart(4, 2), 4);
        x.tier(1, 0, 6);
        due("26 bunged twice, then staked", x.chart(3, 2), 3);
        due("26 not in two", x.chart(2, 2), NONE);
        due("26 both", x.chart(4, 3), 4);
        due("26 both in three", x.chart(3, 3), NONE);
        due("26 it has no FILL", x.chart(4, 4), NONE);
        due("26 no such BARREL", x.chart(4, 8), BAD);
        due("26 a set below 0", x.chart(4, -1), BAD);
        due("26 n 5", x.chart(5, 1), BAD);
        due("26 n -1", x.chart(-1, 1), BAD);
        due("27 each is so behind some", x.bars(3, 3), NONE);
        due("27 though none is so at once", x.bars(4, 3), NONE);
        due("27 the least that isn't", x.bars(2, 7), 1);
        due("27 of one", x.bars(4, 5), 2);
        due("27 none", x.bars(4, 0), NONE);
        due("27 no TIDE", x.bars(0, 1), 0);
        due("27 no such BARREL", x.bars(4, 8), BAD);
        due("27 a set below 0", x.bars(4, -1), BAD);
        due("27 n 5", x.bars(5, 1), BAD);
        due("27 n -1", x.bars(-1, 1), BAD);
        x.change(0, 4, 1);
        due("26 STAKED now", x.chart(0, 1), 0);
        due("27 STAKED now", x.bars(0, 1), NONE);
        x.ends(1);
        due("26 fewer", x.chart(4, 2), NONE);
    }

    private static void games() {
        FloodCellar x = open();
        x.barrel(1, 27, 0, 0);
        x.barrel(1, 36, 0, 0);
        due("28 one", x.game(1), 8);
        due("29 one", x.play(1), 2);
        // Behind 2 the other one tells none; then it is the first one's turn again.
        due("28 two", x.game(2), 9);
        due("29 two", x.play(2), 2);
        due("28 three", x.game(3), 15);
        due("28 n 0", x.game(0), BAD);
        due("28 n 5", x.game(5), BAD);
        due("29 n 0", x.play(0), BAD);
        due("29 n 5", x.play(5), BAD);
        x.ends(1);
        due("28 till it is OVER", x.game(4), 8);
        x.tide();
        due("28 OVER", x.game(4), 0);
        due("29 OVER", x.play(4), NONE);
        due("29 BAD ahead of NONE", x.play(5), BAD);
        FloodCellar forced = open();
        forced.barrel(1, 9, 0, 0);
        forced.barrel(1, 9, 0, 1);
        // All the same: the least ACT.
        due("29 the least", forced.play(1), 1);
        FloodCellar bunged = open();
        bunged.barrel(1, 50, 0, 0);
        bunged.water(0, 8);
        tell(bunged, "vat if tide = 0 bung;");
        // The bung is WORTH 1; then the other one wants that none is told.
        due("28 the other one wants little", bunged.game(2), 1);
        due("29 the bung", bunged.play(2), 1);
        FloodCellar dull = new FloodCellar();
        due("29 none", dull.play(4), 0);
    }

    private static void reports() {
        FloodCellar x = new FloodCellar();
        due("32 all", x.lone(0), 500);
        due("30 FILL at first", x.report(0, 0, 39, 48), 0);
        due("32 one FILL of ten", x.lone(0), 50);
        due("32 KIND", x.lone(1), 1);
        due("32 CHALK", x.lone(2), 0);
        due("32 FILL", x.lone(3), 39);
        // By RISE 2, SALT 1: vat 1, tun 8, butt 4, keg 2, cask 2 and a fourth of TIDE.
        due("30 FILL behind 5", x.report(5, 0, 28, 29), 1);
        due("32 kegs, casks", x.lone(1), 4);
        due("32 20", x.lone(0), 20);
        due("30 never PAID", x.report(15, 1, 0, 0), 2);
        due("32 each FLOATS more than 2", x.lone(0), 20);
        due("30 FILL behind 8", x.report(8, 0, 19, 19), 3);
        due("32 a cask", x.lone(1), 5);
        due("32 ten casks", x.lone(0), 10);
        due("33 some FIT", x.liar(), NONE);
        due("30 often PAID", x.report(9, 1, 9, 9), 4);
        due("32 none", x.lone(0), 0);
        due("32 no KIND", x.lone(1), NONE);
        due("32 no CHALK", x.lone(2), NONE);
        due("32 no FILL", x.lone(3), NONE);
        due("33 the last", x.liar(), 4);
        due("30 no such FILL", x.report(0, 0, 40, 41), 5);
        due("33 two lie", x.liar(), NONE);
        due("30 FULL", x.report(0, 0, 0, 99), FULL);
        due("30 BAD ahead of FULL", x.report(0, 0, 0, 100), BAD);
        due("31 forget", x.forget(), 6);
        due("31 forget again", x.forget(), 0);
        due("32 what 4", x.lone(4), BAD);
        due("32 what -1", x.lone(-1), BAD);
        due("33 no REPORT", x.liar(), NONE);
        int[][] wrong = {{16, 0, 0, 1}, {-1, 0, 0, 1}, {0, 2, 0, 1}, {0, -1, 0, 1}, {0, 0, -1, 1}, {0, 0, 5, 4},
            {0, 0, 0, 100}, {0, 1, 0, 17}, {0, 1, -1, 0}, {0, 1, 17, 17}, {0, 0, MAX, MIN}};
        for (int[] w : wrong) due("30 wrong", x.report(w[0], w[1], w[2], w[3]), BAD);
        due("30 none is there", x.many(3), 0);
        strangers();
    }

    private static void strangers() {
        FloodCellar x = new FloodCellar();
        x.barrel(1, 50, 0, 0);
        x.change(0, 4, 1);
        x.tier(0, 1, 9);
        x.tier(0, 0, 9);
        tell(x, "barrel leave;");
        x.ends(1);
        // A LONE one knows no STEP, GRATE, RULE, END, nor TIDE; a vat PAYS by each RISE.
        x.report(15, 1, 15, 16);
        due("32 PAID each time", x.lone(1), 1);
        x.report(15, 0, 84, 99);
        due("32 FILL of a vat", x.lone(3), 99);
        x.forget();
        x.report(1, 1, 1, 1);
        x.report(1, 0, 1, 1);
        // A butt of 9 has 5 left; a vat 8; a tun 1, but FLOATS 4.
        due("32 none PAID and kept 1", x.lone(0), 0);
        due("33 the least of two", x.liar(), 0);
        x.water(0, 0);
        due("32 by RISE 0 a tun LEAKS 4", x.lone(0), 0);
        x.forget();
        x.report(1, 1, 1, 1);
        x.report(1, 0, 5, 5);
        due("32 by WATER as it is", x.lone(1), 2);
        due("32 tuns of 9", x.lone(0), 10);
        x.water(0, 12);
        x.forget();
        x.report(2, 1, 1, 1);
        x.report(0, 0, 99, 99);
        // By RISE 3, then 2: vats PAY twice, tuns twice; butts of CHALK 6 to 8 FLOAT 2, and of 9 3; kegs by CHALK.
        due("32 ahead of leaking", x.lone(1), 3);
        due("32 CHALK", x.lone(2), 6);
        // Butts of CHALK 6 to 8; kegs and casks of 4, 5.
        due("32 by CHALK", x.lone(0), 3 + 2 + 2);
        strangersThatRunDry();
    }

    private static void strangersThatRunDry() {
        FloodCellar x = new FloodCellar();
        x.report(15, 1, 9, 9);
        x.report(15, 0, 0, 0);
        x.report(0, 0, 9, 9);
        // A vat of 9 PAYS till it is dry, 9 times; by RISE 2 no other of 9 PAYS at all.
        due("32 a dry one PAYS no more", x.lone(0), 10);
        due("32 its KIND", x.lone(1), 1);
        for (int k = 0; k < 10; k++) x.report(k, 0, 9 - k, 9 - k);
        due("30 six at most", x.many(3), 6);
        due("33 vats FIT", x.liar(), NONE);
        x.forget();
        x.water(0, 0);
        x.water(1, 0);
        x.report(0, 0, 9, 9);
        x.report(1, 0, 9, 9);
        x.report(2, 1, 0, 0);
        // By RISE 0 butts, kegs, casks leak nothing; butts of CHALK 0 to 2 PAY.
        due("32 butts, kegs, casks of 9", x.lone(0), 7 + 10 + 10);
        x.forget();
        x.report(0, 0, 99, 99);
        x.report(1, 1, 1, 1);
        x.report(1, 0, 99, 99);
        due("32 butts, kegs, casks of 99", x.lone(0), 30);
        x.report(1, 0, 98, 98);
        due("33 without the third a vat FITS", x.liar(), 2);
        x.forget();
        x.report(0, 0, 9, 9);
        x.report(1, 0, 9, 9);
        x.report(1, 1, 1, 1);
        due("32 butts of CHALK 0 to 2", x.lone(0), 3);
        x.water(0, 4);
        // By RISE 1, SALT 0 they leak 2; kegs and casks of 9 leak nothing, but don't PAY; a vat of 9 leaks 1 and PAYS.
        due("32 none", x.lone(0), 0);
        due("33 the least but for which some would", x.liar(), 1);
    }

    private static void lots() {
        FloodCellar x = open();
        x.barrel(1, 95, 0, 0);
        due("34 seed", x.seed(MIN), 1);
        due("34 seed again", x.seed(1), MIN);
        // 1 becomes 1103527590: 16838 leaves 0 by 2.
        due("35 lot", x.lot(), 0);
        due("35 z", x.seed(1103527590), 1103527590);
        // 3 becomes -984409216, below 0: its upper half is 50515, which leaves 1 by 2.
        x.seed(3);
        due("35 lot of the barrel", x.lot(), 3 + 94 / 9 + 3);
        due("35 z again", x.seed(1), -984409216);
        due("35 SCORE", x.state(2), 16);
        x.ends(2);
        due("35 OVER", x.lot(), STATE);
        due("35 z stays", x.seed(1), 1);
        due("36 OVER: all are WORTH 0", x.times(40, 0), 40);
        due("36 OVER: none is WORTH 1", x.times(40, 1), 0);
        times();
    }

    private static void times() {
        FloodCellar x = open();
        x.barrel(1, 95, 0, 0);
        x.ends(1);
        int z = 1;
        int staked = 0;
        for (int i = 0; i < 40; i++) {
            z = z * 1103515245 + 12345;
            if ((z >>> 16) % 2 == 1) staked++;
        }
        CHECK.holds("36 some are staked, some not", staked > 0 && staked < 40);
        due("36 16 or more", x.times(40, 16), staked);
        due("36 17 or more", x.times(40, 17), 0);
        due("36 0 or more", x.times(7, 0), 7);
        due("36 999", x.times(1, 999), 0);
        due("36 z stays", x.seed(1), 1);
        due("36 TIDE stays", x.state(0) + x.state(4) + x.state(2), 0);
        due("36 n 0", x.times(0, 0), BAD);
        due("36 n 41", x.times(41, 0), BAD);
        due("36 v -1", x.times(1, -1), BAD);
        due("36 v 1000", x.times(1, 1000), BAD);
    }

    private static void rows() {
        FloodCellar x = open();
        x.barrel(1, 27, 0, 0);
        x.barrel(1, 36, 0, 0);
        due("40 no ROWS", x.judge(), 0);
        due("37 three", x.prove(3), 3);
        int[][] want = {{2, 8, 2}, {0, 1, 2}, {1, 6, 3}};
        for (int k = 0; k < 3; k++) {
            for (int what = 0; what < 3; what++) due("38 ROW " + k + ", " + what, x.row(k, what), want[k][what]);
        }
        due("38 ROW 3", x.row(3, 0), -9);
        due("38 ROW -1", x.row(-1, 0), -9);
        due("38 another what", x.row(0, 3), -9);
        due("38 what -1", x.row(0, -1), -9);
        due("37 n 5", x.prove(5), BAD);
        due("37 n -1", x.prove(-1), BAD);
        due("37 ROWS stay", x.many(4), 3);
        due("40 all is right", x.judge(), 0);
        due("39 ACT", x.alterRow(1, 0, 2), 0);
        due("40 one that is STAKED is told", x.judge(), 0);
        due("39 no ACT", x.alterRow(1, 0, 3), 2);
        due("40 no ACT", x.judge(), 2);
        due("39 an ACT below 0", x.alterRow(1, 0, -1), 3);
        due("40 an ACT below 0", x.judge(), 2);
        x.alterRow(1, 0, 0);
        due("39 STAKED", x.alterRow(2, 2, 2), 3);
        due("40 STAKED", x.judge(), 3);
        x.alterRow(2, 2, 3);
        due("39 WORTH", x.alterRow(0, 1, MIN), 8);
        due("38 WORTH", x.row(0, 1), MIN);
        due("40 WORTH", x.judge(), 1);
        x.alterRow(0, 1, 8);
        due("39 ROW 3", x.alterRow(3, 0, 0), -9);
        due("39 another what", x.alterRow(0, 3, 0), -9);
        due("39 ROW -1", x.alterRow(-1, 0, 0), -9);
        due("39 what -1", x.alterRow(0, -1, 0), -9);
        due("40 right again", x.judge(), 0);
        x.ends(2);
        due("40 OVER ahead of the third", x.judge(), 3);
        due("37 fewer", x.prove(4), 2);
        due("38 the third is gone", x.row(2, 0), -9);
        x.ends(12);
        due("37 four", x.prove(4), 4);
        due("38 the fourth", x.row(3, 2), 3);
        due("40 four", x.judge(), 0);
        due("37 none", x.prove(0), 0);
        due("40 none", x.judge(), 0);
    }

    private static void sheets() {
        FloodCellar x = new FloodCellar();
        due("41 SHEET 4", x.sheet(4, 0, 1), BAD);
        due("41 SHEET -1", x.sheet(-1, 0, 1), BAD);
        due("41 sort 5", x.sheet(0, 5, 1), BAD);
        due("41 sort -2", x.sheet(0, -2, 1), BAD);
        due("41 n 41", x.sheet(0, 0, 41), BAD);
        due("41 n -1", x.sheet(0, 0, -1), -14);
        due("41 n -1 of no sort", x.sheet(0, 5, -1), BAD);
        due("42 missing", x.write(0, 0, 1), -11);
        due("42 missing, outside", x.write(0, -1, 1), -11);
        due("43 missing", x.item(0, 4, 0), -11);
        int[] written = {200, 40000, 70000, -5, 256};
        int[] read = {-56, -25536, 70000, -5, 1};
        for (int sort = 0; sort < 5; sort++) {
            due("41 sheet", x.sheet(sort % 4, sort, 40), 1);
            due("43 all 0", x.item(sort % 4, sort, 39), 0);
            due("42 write", x.write(sort % 4, 39, written[sort]), 1);
            due("43 item", x.item(sort % 4, sort, 39), read[sort]);
            for (int other = 0; other < 5; other++) {
                if (other != sort) due("43 another sort", x.item(sort % 4, other, 99), -13);
            }
        }
        for (int v : new int[] {0, 1, -1, MIN}) {
            x.write(0, 0, v);
            due("42 whether it is not 0", x.item(0, 4, 0), v == 0 ? 0 : 1);
        }
        due("42 outside", x.write(1, 40, 1), -12);
        due("42 below", x.write(1, -1, 1), -12);
        due("43 outside", x.item(1, 1, 40), -12);
        due("43 below", x.item(1, 1, MIN), -12);
        due("42 SHEET 4", x.write(4, 0, 1), BAD);
        due("42 SHEET -1", x.write(-1, 0, 1), BAD);
        due("43 SHEET 4", x.item(4, 0, 0), BAD);
        due("43 SHEET -1", x.item(-1, 0, 0), BAD);
        due("43 sort 5", x.item(1, 5, 0), BAD);
        due("43 sort -1", x.item(1, -1, 0), BAD);
        x.write(2, 0, -13);
        due("43 an item as low as a refusal", x.item(2, 2, 0), -13);
        due("41 a new row", x.sheet(2, 2, 3), 1);
        due("43 all 0 again", x.item(2, 2, 0), 0);
        due("43 shorter", x.item(2, 2, 3), -12);
        due("41 a refused one", x.sheet(2, 2, -1), -14);
        due("43 changes nothing", x.item(2, 2, 2), 0);
        due("41 an empty row", x.sheet(2, 3, 0), 1);
        due("43 of an empty row", x.item(2, 3, 0), -12);
        due("41 missing, n counts nothing", x.sheet(2, -1, -7), 1);
        due("41 missing, n counts nothing", x.sheet(2, -1, 77), 1);
        due("43 missing again", x.item(2, 3, 0), -11);
    }

    private static void sheetsOfActs() {
        FloodCellar x = open();
        x.barrel(1, 27, 0, 0);
        x.barrel(1, 36, 0, 0);
        x.sheet(0, 0, 4);
        x.write(0, 0, 2);
        x.write(0, 1, 3);
        x.write(0, 2, -1);
        x.write(0, 3, 1);
        x.sheet(1, 4, 4);
        due("45 one", x.wouldBe(0, 0, 1), 8);
        due("45 no ACT", x.wouldBe(0, 0, 2), STATE);
        due("45 below 0", x.wouldBe(0, 2, 1), STATE);
        due("45 the last", x.wouldBe(0, 3, 1), 6);
        due("45 the last, then outside", x.wouldBe(0, 3, 2), -12);
        due("45 below", x.wouldBe(0, -1, 2), -12);
        due("45 far outside", x.wouldBe(0, MAX, 2), -12);
        due("45 none, outside", x.wouldBe(0, 99, 0), 0);
        due("45 another sort", x.wouldBe(1, 0, 0), -13);
        due("45 missing", x.wouldBe(2, 0, 0), -11);
        due("45 SHEET 4", x.wouldBe(4, 0, 0), BAD);
        due("45 SHEET -1", x.wouldBe(-1, 0, 0), BAD);
        due("45 n 21", x.wouldBe(1, 0, 21), BAD);
        due("45 n -1", x.wouldBe(2, 0, -1), BAD);
        due("45 nothing is changed", x.state(0), 0);
        due("44 what is none is left out", x.goAll(0, 0, 4), 8 + 1 + 5);
        due("44 two TIDES", x.state(0), 2);
        due("44 SCORE", x.state(2), 14);
        due("44 STAKED", x.state(4), 3);
        due("44 what stood ahead was done", x.goAll(0, 3, 2), -12);
        due("44 it was done", x.state(0), 3);
        due("44 SCORE of it", x.state(2), 15);
        due("44 below", x.goAll(0, -1, 2), -12);
        due("44 far outside", x.goAll(0, MAX, 20), -12);
        due("44 none, outside", x.goAll(0, 99, 0), 0);
        due("44 another sort", x.goAll(1, 0, 0), -13);
        due("44 missing", x.goAll(2, 0, 0), -11);
        due("44 SHEET 4", x.goAll(4, 0, 0), BAD);
        due("44 SHEET -1", x.goAll(-1, 0, 0), BAD);
        due("44 n 21", x.goAll(1, 0, 21), BAD);
        due("44 n -1", x.goAll(2, 0, -1), BAD);
        x.ends(4);
        x.sheet(0, 0, 20);
        due("45 OVER ahead of the second", x.wouldBe(0, 0, 2), STATE);
        due("45 just one", x.wouldBe(0, 0, 1), 1);
        due("44 when it is OVER", x.goAll(0, 0, 20), 1);
        due("44 TIDE", x.state(0), 4);
        due("44 OVER and outside", x.goAll(0, 20, 1), -12);
    }

    private static void shelves() {
        FloodCellar x = new FloodCellar();
        for (int kind = 1; kind <= 5; kind++) x.barrel(kind, 0, 0, 0);
        int[][] under = {{0, 1}, {0, 2}, {0, 2, 3}, {0, 4}, {0, 4, 5}};
        for (int k = 0; k < 5; k++) {
            due("46 a BARREL", x.shelf(0, 0, k), 1);
            for (int as = 0; as < 6; as++) {
                boolean is = false;
                for (int u : under[k]) is |= u == as;
                due("47 " + k + " as " + as, x.taken(0, as), is ? k : -13);
            }
            for (int as = 10; as < 15; as++) due("47 a BARREL as a row", x.taken(0, as), -13);
        }
        for (int sort = 0; sort < 5; sort++) {
            x.sheet(1, sort, 7);
            due("46 a row", x.shelf(1, 1, 1), 1);
            for (int as = 10; as < 15; as++) due("47 a row as " + as, x.taken(1, as), as == sort + 10 ? 7 : -13);
            for (int as = 0; as < 6; as++) due("47 a row as a BARREL", x.taken(1, as), -13);
        }
        x.sheet(1, 2, 3);
        due("47 it is the row that was there", x.taken(1, 14), 7);
        due("46 a missing one", x.shelf(1, 1, 3), 1);
        due("47 nothing as a row", x.taken(1, 14), -11);
        due("47 nothing as a BARREL", x.taken(1, 0), -11);
        due("46 nothing", x.shelf(0, 2, MIN), 1);
        due("47 nothing", x.taken(0, 5), -11);
        int[][] wrong = {{4, 0, 0}, {-1, 0, 0}, {0, 3, 0}, {0, -1, 0}, {0, 0, 5}, {0, 0, -1}, {0, 1, 4}, {0, 1, -1}};
        for (int[] w : wrong) due("46 wrong", x.shelf(w[0], w[1], w[2]), BAD);
        for (int as : new int[] {-1, 6, 9, 15, MIN, MAX}) due("47 as " + as, x.taken(0, as), BAD);
        due("47 SHELF 4", x.taken(4, 0), BAD);
        due("47 SHELF -1", x.taken(-1, 0), BAD);
        shelvesByNumber();
    }

    private static void shelvesByNumber() {
        FloodCellar x = new FloodCellar();
        x.keep();
        x.barrel(2, 0, 0, 0);
        x.shelf(0, 0, 0);
        x.remake(0, 5);
        due("47 of its KIND now", x.taken(0, 5), 0);
        due("47 not of that before", x.taken(0, 2), -13);
        x.again();
        due("47 no such one at the time", x.taken(0, 5), -11);
        due("48 no such one at the time", x.act(0, 0, 1), 0);
        x.barrel(3, 0, 0, 0);
        due("47 again such a one", x.taken(0, 3), 0);
    }

    private static void acts() {
        FloodCellar x = new FloodCellar();
        int[] tiers = {1, 3, 5, 2, 0};
        for (int k = 0; k < 5; k++) {
            x.barrel(k + 1, 0, 0, tiers[k]);
            x.shelf(k < 4 ? k : 0, 0, k < 4 ? k : 0);
        }
        // vat, n 0, a 1.
        due("48 vat rolls", x.act(0, 0, 5), 26);
        due("48 vat seeps", x.act(0, 1, 5), 22);
        due("48 vat hoops", x.act(0, 2, 5), -5);
        due("48 vat floods", x.act(0, 3, 5), 22 ^ -5);
        // tun, n 1, a 3.
        due("48 tun rolls", x.act(1, 0, 5), 13);
        due("48 tun seeps", x.act(1, 1, 5), 1 ^ 17);
        due("48 tun hoops", x.act(1, 2, -5), -2);
        due("48 tun floods", x.act(1, 3, 5), 16 ^ 2);
        // butt, n 2, a 5.
        due("48 butt rolls", x.act(2, 0, 5), 2);
        due("48 butt seeps", x.act(2, 1, 5), -18 ^ 17);
        due("48 butt hoops", x.act(2, 2, 16), 3);
        due("48 butt floods", x.act(2, 3, 5), ((-18 ^ 17) ^ 1) + (-18 ^ 17));
        // keg, n 3, a 2.
        due("48 keg rolls", x.act(3, 0, 5), 19);
        due("48 keg seeps", x.act(3, 1, 5), 11);
        due("48 keg hoops", x.act(3, 2, 5), 3);
        due("48 keg floods", x.act(3, 3, 5), 11 ^ 3);
        // cask, n 4, a 0.
        x.shelf(0, 0, 4);
        due("48 cask rolls", x.act(0, 0, 5), 22);
        due("48 cask seeps", x.act(0, 1, 5), -22);
        due("48 cask hoops", x.act(0, 2, 5), 2 * 3 - 20);
        due("48 cask floods", x.act(0, 3, 5), -22 ^ -14);
        due("48 it wraps", x.act(0, 0, MAX), 10);
        x.change(4, 3, 5);
        due("48 by its TIER now", x.act(0, 1, 5), -2);
        x.shelf(0, 0, 0);
        due("48 the least by -1 wraps", x.act(0, 2, MIN), MIN);
    }

    private static void traces() {
        FloodCellar x = new FloodCellar();
        for (int kind = 1; kind <= 5; kind++) x.barrel(kind, 0, 0, 5);
        int[][][] due = {
            {{20, 10}, {11, 20, 10}, {12}, {13, 11, 20, 10, 12}},
            {{10}, {30, 11, 10}, {12}, {13, 30, 11, 10, 12}},
            {{50, 10}, {30, 11, 50, 10}, {12}, {51, 13, 30, 11, 50, 10, 12, 30, 11, 50, 10}},
            {{10}, {11, 10}, {40, 12}, {13, 11, 10, 40, 12}},
            {{10}, {60, 11, 10}, {61, 40, 12, 10}, {13, 60, 11, 10, 61, 40, 12, 10}}};
        for (int k = 0; k < 5; k++) {
            x.shelf(0, 0, k);
            for (int act = 0; act < 4; act++) {
                x.act(0, act, 1);
                traced(x, "49 KIND " + (k + 1) + ", act " + act, due[k][act]);
            }
        }
        x.change(4, 3, 0);
        x.change(2, 3, 0);
        x.remake(4, 4);
        // Parted by 0: n 2 and a 0.
        x.shelf(0, 0, 2);
        due("48 butt hoops, parted by 0", x.act(0, 2, 1), -15);
        traced(x, "49 parted by 0", 12);
        due("48 butt floods, parted by 0", x.act(0, 3, 1), -15);
        traced(x, "49 parted by 0", 51, 13, 30, 11, 50, 10, 12);
        x.remake(2, 5);
        due("48 cask hoops, parted by 0", x.act(0, 2, 1), -15);
        traced(x, "49 parted by 0", 61, 40, 12);
        due("48 rolls behind it", x.act(0, 0, 1), 8);
        noTrace(x);
    }

    private static void noTrace(FloodCellar x) {
        x.sheet(0, 0, 1);
        x.shelf(1, 1, 0);
        int[][] wrong = {{4, 0}, {-1, 0}, {0, 4}, {0, -1}, {1, 0}, {2, 0}};
        for (int[] w : wrong) {
            x.act(0, 0, 1);
            due("48 no act", x.act(w[0], w[1], 1), 0);
            traced(x, "49 no act");
        }
    }

    private static void traced(FloodCellar x, String what, int... bodies) {
        due("50 bodies, " + what, x.many(6), bodies.length);
        for (int i = 0; i < bodies.length; i++) due(what + ", body " + i, x.trace(i), bodies[i]);
        due(what + ", behind", x.trace(bodies.length), NONE);
        due(what + ", -1", x.trace(-1), NONE);
    }

    private static void manyOfAll() {
        FloodCellar x = open();
        x.barrel(1, 50, 0, 0);
        x.barrel(1, 50, 0, 0);
        x.barrel(2, 50, 0, 0);
        tell(x, "tun leave;tun leave;");
        x.tide();
        x.tide();
        for (int i = 0; i < 4; i++) x.report(0, 0, 0, 99);
        x.prove(3);
        x.feed(0, 5);
        x.shelf(0, 0, 2);
        x.act(0, 1, 1);
        int[] want = {3, 2, 2, 4, 3, 5, 3};
        for (int what = 0; what < 7; what++) due("50 many " + what, x.many(what), want[what]);
        due("50 what 7", x.many(7), BAD);
        due("50 what -1", x.many(-1), BAD);
    }

    private static void keptVaults() {
        FloodCellar x = open();
        x.barrel(1, 50, 3, 0);
        x.tide();
        x.report(1, 0, 2, 3);
        x.seed(99);
        x.water(3, 7);
        x.tier(4, 1, 6);
        x.ends(14);
        tell(x, "barrel leave;");
        due("51 keep", x.keep(), 1);
        x.barrel(2, 40, 4, 1);
        x.remake(0, 5);
        x.change(0, 1, 1);
        x.change(0, 2, 1);
        x.change(0, 3, 1);
        x.anew();
        x.forget();
        x.seed(7);
        x.water(3, 1);
        x.tier(4, 1, 1);
        x.tier(4, 0, 1);
        x.ends(5);
        tell(x, "vat bung;tun if fill>1 bung;");
        x.prove(2);
        x.sheet(0, 0, 2);
        x.shelf(0, 1, 0);
        x.feed(0, 3);
        x.shelf(1, 0, 0);
        x.act(1, 0, 1);
        for (int i = 0; i < 2; i++) {
            due("52 again", x.again(), 1);
            int[] barrel = {1, 50, 3, 0, 1};
            for (int what = 0; what < 5; what++) due("52 barrelOf " + what, x.barrelOf(0, what), barrel[what]);
            due("52 WILL", x.barrelOf(0, 9), 1);
            due("52 TIDE", x.state(0), 1);
            due("52 END", x.state(1), 14);
            due("52 SCORE", x.state(2), 9);
            due("52 WATER", x.water(3, 0), 7);
            due("52 GRATE", x.tier(4, 1, 0), 6);
            due("52 STEP", x.tier(4, 0, 0), 9);
            due("52 RULES", x.many(1), 1);
            due("52 REPORTS", x.many(3), 1);
            due("52 z", x.seed(5), 99);
            due("52 ROWS stay", x.many(4), 2);
            due("52 THE TAPE stays", x.many(5), 3);
            due("52 THE TRACE stays", x.many(6), 1);
            due("52 SHEETS stay", x.item(0, 0, 1), 0);
            due("52 SHELVES stay", x.taken(0, 10), 2);
            x.tide();
        }
        x.keep();
        x.tide();
        x.again();
        due("52 what was kept latest", x.state(0), 2);
    }
}
