/** What tests of cellars stand on: cellars made ready, and what is done in them again and again. */
abstract class Cellars {
    static final int BAD = -1, FULL = -2, NONE = -3, STATE = -4;
    static final int MIN = Integer.MIN_VALUE, MAX = Integer.MAX_VALUE;

    /** Each TIER has STEP 9, so that all but kegs full of chalk may be staked. */
    static FloodCellar open() {
        FloodCellar x = new FloodCellar();
        for (int f = 0; f < 6; f++) x.tier(f, 0, 9);
        return x;
    }

    /** END is 16, no BARREL is there yet, and this TIDE comes. */
    static FloodCellar atTide(int tide) {
        FloodCellar x = new FloodCellar();
        x.ends(16);
        for (int t = 0; t < tide; t++) x.tide();
        return x;
    }

    static void allWater(FloodCellar x, int v) {
        for (int t = 0; t < 16; t++) x.water(t, v);
    }

    static void feed(FloodCellar x, String text) {
        for (int i = 0; i < text.length(); i += 8) {
            long eight = 0;
            int n = Math.min(8, text.length() - i);
            for (int j = n - 1; j >= 0; j--) eight = eight << 8 | text.charAt(i + j);
            x.feed(eight, n);
        }
    }

    static int tell(FloodCellar x, String text) {
        feed(x, text);
        return x.rules();
    }

    /** A TIDE ahead of which this ACT stands; SHEET 3 is used up for it. */
    static int go(FloodCellar x, int act) {
        x.sheet(3, 0, 1);
        x.write(3, 0, act);
        return x.goAll(3, 0, 1);
    }
}
