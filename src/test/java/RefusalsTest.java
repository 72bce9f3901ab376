import java.lang.reflect.Method;
import java.util.HashMap;
import java.util.Map;

/** What is refused changes nothing, nor does what is asked: a cellar behind such a call is as one without it. */
public final class RefusalsTest extends Cellars {
    private static final Sentences S = new Sentences("RefusalsTest");
    private static final Map<String, Method> CALLS = new HashMap<>();
    private static final int RICH = 0, OVER = 1, NEW = 2;

    public static void main(String[] args) throws Exception {
        for (Method m : FloodCellar.class.getDeclaredMethods()) CALLS.put(m.getName(), m);
        refusedInRich();
        refusedOfRows();
        refusedWhenOver();
        refusedWhenNew();
        asked();
        whatChanges();
        partedBy0();
        S.end();
    }

    // ---- what is refused

    private static void refusedInRich() throws Exception {
        S.says("Answers below 0, where not told otherwise, are refusals; such a call changes nothing");
        refused(RICH, BAD, "barrel 0 5 5 5;barrel 6 5 5 5;barrel 1 100 5 5;barrel 1 -1 5 5;barrel 1 5 10 5;barrel 1 5 5 6;"
            + "barrelOf 6 0;barrelOf -1 0;barrelOf 0 10;change 6 1 1;change -1 1 1;change 0 0 1;change 0 5 1;change 0 1 100;"
            + "change 0 1 -1;change 0 2 10;change 0 2 -1;change 0 3 6;change 0 3 -1;change 0 4 2;change 0 4 -1;remake 6 1;"
            + "remake -1 1;remake 0 6;remake 0 0;water 16 0;water -1 0;water 0 16;water 0 -1;tier 6 0 1;tier -1 0 1;tier 0 2 1;"
            + "tier 0 -1 1;tier 0 0 10;tier 0 1 10;tier 0 0 -1;tierOf 6 0;tierOf 0 2;ends 0;ends 17;state 7;state -1;feed 32 0;"
            + "feed 32 9;on 17;on -1;when 6;chalkFor 6;tierFor 6;dry 6;least 6;left 17 0;left 0 2;rafts 6;rafts -2");
        refused(RICH, BAD, "best 5;best -1;ith 5 0;ith 4 4;ways 5;chart 5 0;chart 4 64;chart 4 -1;bars 5 0;bars 4 64;game 0;game 5;"
            + "play 0;play 5;report 16 0 0 1;report 0 2 0 1;report 0 0 -1 1;report 0 0 0 100;report 0 1 0 17;report 0 0 2 1;lone 4;"
            + "lone -1;times 0 0;times 41 0;times 1 -1;times 1 1000;prove 5;prove -1;many 7;many -1");
        refused(RICH, FULL, "barrel 1 5 5 5;feed 8224 2;feed -1 8;report 0 0 0 99");
        refused(RICH, NONE, "when 0;least 0;ith 2 2;ith 0 0;chart 0 2;chart 4 63;bars 4 1;bars 0 0;trace 11;trace -1;liar");
        refused(RICH, STATE, "ends 2;ends 1");
    }

    private static void refusedOfRows() throws Exception {
        S.says("and what the host refuses: -11 nothing where something is asked, -12 a place outside, -13 a thing of another sort or"
            + " kind, -14 a size below 0");
        refused(RICH, -9, "row 4 0;row -1 0;row 0 3;alterRow 4 0 1;alterRow -1 0 1;alterRow 0 3 1;alterRow 0 -1 1");
        refused(RICH, BAD, "sheet 4 0 1;sheet -1 0 1;sheet 0 5 1;sheet 0 -2 1;sheet 0 0 41;write 4 0 1;item 4 0 0;item 0 5 0;"
            + "goAll 4 0 1;goAll 0 0 21;goAll 0 0 -1;wouldBe 4 0 1;wouldBe 0 0 21;shelf 4 0 0;shelf 0 3 0;shelf 0 0 6;shelf 0 0 -1;"
            + "shelf 0 1 4;taken 4 0;taken 0 6;taken 0 9;taken 0 15");
        refused(RICH, -11, "write 3 0 1;item 3 0 0;goAll 3 0 1;goAll 3 0 0;wouldBe 3 0 1;taken 2 0;taken 2 10;taken 3 14");
        refused(RICH, -12, "write 0 4 1;write 0 -1 1;write 2 0 1;item 0 0 4;item 1 3 -1;goAll 0 4 1;goAll 0 -1 20;wouldBe 0 4 1;"
            + "wouldBe 0 2 3");
        refused(RICH, -13, "item 0 1 0;item 1 2 0;goAll 1 0 1;goAll 2 0 0;wouldBe 1 0 1;taken 0 1;taken 0 12;taken 1 0;taken 1 10");
        refused(RICH, -14, "sheet 0 0 -1;sheet 3 4 -2147483648");
        refused(RICH, STATE, "wouldBe 0 0 2;wouldBe 0 1 1");
    }

    private static void refusedWhenOver() throws Exception {
        S.says("of several the first named");
        refused(OVER, STATE, "tide;lot;wouldBe 0 0 1;ends 2");
        refused(OVER, NONE, "play 1;play 4;ith 4 0;when 1;dry 1;chart 4 2");
        refused(OVER, BAD, "play 0;play 5;ith 4 4;ith 5 0;when 6;dry 6;wouldBe 0 0 21;ends 0;on 17;barrel 1 5 5 6;feed 32 9;"
            + "report 0 0 2 1");
        refused(OVER, -11, "wouldBe 3 0 1");
        refused(OVER, -12, "wouldBe 0 4 1;goAll 0 3 2");
        refused(OVER, -13, "wouldBe 1 0 1");
    }

    private static void refusedWhenNew() throws Exception {
        S.says("BAD (-1) there is no such thing, or a number is not as told; FULL (-2); NONE (-3); STATE (-4)");
        refused(NEW, BAD, "barrelOf 0 0;change 0 1 1;remake 0 1;when 0;chalkFor 0;tierFor 0;dry 0;least 0;rafts 0;chart 4 1;bars 4 1;"
            + "shelf 0 0 0");
        refused(NEW, NONE, "again;liar;trace 0;bars 4 0;ith 0 0");
        refused(NEW, -9, "row 0 0;alterRow 0 0 0");
        refused(NEW, -11, "write 0 0 1;item 0 0 0;goAll 0 0 1;wouldBe 0 0 1;taken 0 0;taken 0 10");
    }

    private static void refused(int scene, int answer, String calls) throws Exception {
        String untouched = seen(scene(scene));
        for (String call : calls.split(";")) {
            FloodCellar x = scene(scene);
            S.due(call + " in scene " + scene, call(x, call), answer);
            same(call + " in scene " + scene, seen(x), untouched);
        }
    }

    /** The place of the first answer that isn't the same is shown, or -1 is due. */
    private static void same(String call, String seen, String untouched) {
        String[] is = seen.split("\n"), was = untouched.split("\n");
        int place = -1;
        for (int i = Math.min(is.length, was.length) - 1; i >= 0; i--) if (!is[i].equals(was[i])) place = i;
        S.due("behind " + call + (place < 0 ? "" : ", " + is[place] + " was " + was[place]), place, -1);
        S.due("as much is seen behind " + call, is.length, was.length);
    }

    // ---- what is asked

    private static final String ASKED = "barrelOf 1 7;barrelOf 1 9;tierOf 1 0;state 2;on 0;on 16;when 2;chalkFor 1;tierFor 1;dry 5;"
        + "least 1;least 5;left 16 0;left 16 1;rafts -1;rafts 1;best 4;ith 4 3;ways 4;chart 4 6;bars 4 62;game 4;play 4;lone 0;lone 3;"
        + "times 40 3;times 1 0;row 0 0;judge;item 0 0 0;item 1 3 0;wouldBe 0 2 2;wouldBe 0 0 1;taken 0 3;taken 1 13;trace 0;trace 10;many 6";

    private static void asked() throws Exception {
        S.says("What is asked changes nothing, if not told.");
        String untouched = seen(scene(RICH));
        FloodCellar all = scene(RICH);
        for (String call : ASKED.split(";")) {
            FloodCellar x = scene(RICH);
            S.due(call + " is no refusal", call(x, call) < 0 ? 0 : 1, 1);
            S.due(call + " is asked again", call(x, call), call(all, call));
            same(call, seen(x), untouched);
        }
        same("all that was asked", seen(all), untouched);
        for (int scene : new int[] {OVER, NEW}) {
            FloodCellar x = scene(scene);
            for (String call : ASKED.split(";")) call(x, call);
            same("all that was asked in scene " + scene, seen(x), seen(scene(scene)));
        }
    }

    /** Shows that what is seen of a cellar tells all of it: each of these calls, once it is made, is seen. */
    private static void whatChanges() throws Exception {
        S.says("Nothing is promised beyond the answers and state changes described above");
        String calls = "change 0 1 7;change 1 2 7;change 2 3 0;change 3 4 1;remake 4 2;water 3 2;water 15 2;tier 5 0 2;tier 4 1 2;ends 11;"
            + "anew;feed 32 1;feed 97 1;rules;tide;forget;seed 4;lot;prove 3;prove 0;alterRow 3 2 63;alterRow 0 0 5;sheet 1 3 3;"
            + "sheet 0 -1 0;write 0 3 1;write 1 2 1;goAll 0 0 1;goAll 0 2 2;shelf 0 0 4;shelf 1 2 0;shelf 2 1 0;act 0 0 1;act 4 0 1;keep;"
            + "again";
        String untouched = seen(scene(RICH));
        for (String call : calls.split(";")) {
            FloodCellar x = scene(RICH);
            call(x, call);
            S.due(call + " is seen", seen(x).equals(untouched) ? 0 : 1, 1);
        }
        S.due("two like cellars are seen alike", seen(scene(RICH)).equals(untouched) ? 1 : 0, 1);
    }

    /** THE TRACE alone is told otherwise. */
    private static void partedBy0() throws Exception {
        S.says("-15 parted by 0");
        String all = "act 0 3 5";
        FloodCellar x = scene(RICH);
        x.change(2, 3, 0);
        FloodCellar y = scene(RICH);
        y.change(2, 3, 0);
        S.due("floods", call(x, all), -15);
        S.due("hoops", call(y, "act 0 2 5"), -15);
        int[] bodies = {51, 13, 30, 11, 50, 10, 12};
        for (int i = 0; i < bodies.length; i++) S.due("body " + i, x.trace(i), bodies[i]);
        // Behind an ACT of nothing both have no TRACE, and are as they were.
        call(x, "act 2 0 0");
        call(y, "act 2 0 0");
        FloodCellar z = scene(RICH);
        z.change(2, 3, 0);
        call(z, "act 2 0 0");
        String untouched = seen(z);
        same("floods", seen(x), untouched);
        same("hoops", seen(y), untouched);
    }

    // ---- cellars, and all that can be seen of them

    private static FloodCellar scene(int which) {
        FloodCellar x = new FloodCellar();
        if (which == NEW) return x;
        x.tier(0, 1, 3);
        x.tier(4, 0, 6);
        x.tier(5, 1, 9);
        x.water(4, 4);
        x.barrel(1, 90, 1, 0);
        x.barrel(2, 95, 2, 1);
        x.keep();
        x.barrel(3, 80, 3, 2);
        x.barrel(4, 70, 4, 3);
        x.barrel(5, 60, 5, 4);
        x.barrel(1, 50, 6, 5);
        tell(x, "barrel if number = 0 stake;barrel if tide < 3 leave;barrel if number > 2 leave;");
        for (int t = 0; t < 3; t++) x.tide();
        x.report(0, 0, 19, 99);
        x.report(2, 1, 1, 9);
        for (int i = 0; i < 4; i++) x.report(i, 0, 0, 90);
        x.prove(4);
        x.seed(77);
        x.sheet(0, 0, 4);
        x.write(0, 0, 2);
        x.write(0, 1, 9);
        x.sheet(1, 3, 3);
        x.write(1, 0, 8);
        x.sheet(2, 4, 0);
        x.shelf(0, 0, 2);
        x.shelf(1, 1, 1);
        x.act(0, 3, 5);
        feed(x, "keg bung;" + " ".repeat(190));
        if (which == OVER) x.ends(3);
        return x;
    }

    /** What all calls tell of it, a line each; it is used up by that. */
    private static String seen(FloodCellar x) throws Exception {
        StringBuilder text = new StringBuilder();
        for (int what = 0; what < 7; what++) see(x, text, "state " + what, "many " + what);
        for (int i = 0; i < 12; i++) see(x, text, "trace " + i);
        for (int k = 0; k < 4; k++) see(x, text, "row " + k + " 0", "row " + k + " 1", "row " + k + " 2", "lone " + k);
        see(x, text, "judge", "liar");
        seeSheetsAndShelves(x, text);
        seeVault(x, text);
        see(x, text, "seed 1", "rules");
        for (int k = 0; k < 6; k++) see(x, text, "barrelOf " + k + " 9");
        see(x, text, "on 16", "again");
        seeVault(x, text);
        see(x, text, "lone 0", "seed 1", "on 16", "forget");
        return text.toString();
    }

    private static void seeSheetsAndShelves(FloodCellar x, StringBuilder text) throws Exception {
        for (int s = 0; s < 4; s++) {
            for (int sort = 0; sort < 5; sort += s == 1 ? 3 : 1) see(x, text, "item " + s + " " + sort + " 0");
            see(x, text, "taken " + s + " 0", "taken " + s + " 3", "taken " + s + " 10", "taken " + s + " 13");
        }
        for (int i = 1; i < 4; i++) see(x, text, "item 0 0 " + i, "item 1 3 " + i);
    }

    private static void seeVault(FloodCellar x, StringBuilder text) throws Exception {
        for (int k = 0; k < 6; k++) {
            for (int what : new int[] {0, 1, 2, 3, 4, 9}) see(x, text, "barrelOf " + k + " " + what);
            see(x, text, "tierOf " + k + " 0", "tierOf " + k + " 1");
        }
        for (int what = 0; what < 4; what++) see(x, text, "state " + what);
        for (int t = 0; t < 16; t++) see(x, text, "water " + t + " 1");
    }

    private static void see(FloodCellar x, StringBuilder text, String... calls) throws Exception {
        for (String call : calls) text.append(call).append(": ").append(call(x, call)).append('\n');
    }

    private static int call(FloodCellar x, String call) throws Exception {
        String[] words = call.split(" ");
        Method m = CALLS.get(words[0]);
        Object[] values = new Object[words.length - 1];
        for (int i = 0; i < values.length; i++) {
            if (m.getParameterTypes()[i] == long.class) values[i] = Long.parseLong(words[i + 1]);
            else values[i] = Integer.parseInt(words[i + 1]);
        }
        return (int) m.invoke(x, values);
    }
}
