import java.lang.reflect.Method;
import java.util.HashMap;
import java.util.Map;
import java.util.Random;

/** Runs of calls by chance on FloodCellar and on PlainCellar, which must answer alike. */
public final class AgainstPlainTest {
    /** The calls, with the least and the most of each argument as the document tells them. */
    private static final String CALLS = "barrel 1 5 0 99 0 9 0 5;barrelOf 0 5 0 9;change 0 5 1 4 0 9;change 0 5 1 1 0 99;"
        + "change 0 5 4 4 0 1;remake 0 5 1 5;water 0 15 0 15;tier 0 5 0 1 0 9;tierOf 0 5 0 1;ends 1 16;anew;state 0 6;rules;"
        + "tide;on 0 16;when 0 5;chalkFor 0 5;tierFor 0 5;dry 0 5;least 0 5;left 0 16 0 1;rafts -1 5;best 0 4;ith 0 4 0 3;"
        + "ways 0 4;chart 0 4 0 63;bars 0 4 0 63;game 1 4;play 1 4;report 0 15 0 0 0 60 40 99;report 0 15 1 1 0 6 3 16;"
        + "forget;lone 0 3;liar;seed -2147483648 2147483647;lot;times 1 40 0 60;prove 0 4;row 0 3 0 2;alterRow 0 3 0 2 0 6;"
        + "judge;sheet 0 3 -1 4 0 40;sheet 0 3 0 0 0 40;write 0 3 0 39 -1000 70000;write 0 3 0 39 0 6;item 0 3 0 4 0 39;"
        + "goAll 0 3 0 30 0 20;wouldBe 0 3 0 30 0 4;shelf 0 3 0 2 0 5;taken 0 3 0 5;taken 0 3 10 14;"
        + "act 0 3 0 3 -100 100;act 0 3 0 3 -2147483648 2147483647;trace 0 12;many 0 6;keep;again";
    private static final int[] EDGES = {Integer.MIN_VALUE, Integer.MAX_VALUE, -1, 0, 6, 100, -100, 41, 200};

    private final Random random;
    private final FloodCellar cellar = new FloodCellar();
    private final PlainCellar plain = new PlainCellar();
    private final StringBuilder run = new StringBuilder();
    private final Check check;
    private static final Map<String, Method[]> METHODS = new HashMap<>();

    private AgainstPlainTest(Check check, long seed) {
        this.check = check;
        random = new Random(seed);
    }

    public static void main(String[] args) throws Exception {
        int runs = args.length > 0 ? Integer.parseInt(args[0]) : 400;
        for (Method m : FloodCellar.class.getDeclaredMethods()) {
            if (!java.lang.reflect.Modifier.isPublic(m.getModifiers())) continue;
            METHODS.put(m.getName(), new Method[] {m, PlainCellar.class.getDeclaredMethod(m.getName(), m.getParameterTypes())});
        }
        Check check = new Check("AgainstPlainTest");
        for (int i = 0; i < runs && !check.hasWrong(); i++) new AgainstPlainTest(check, i).goThrough(150);
        check.end();
    }

    private void goThrough(int calls) throws Exception {
        int filled = random.nextInt(7);
        for (int i = 0; i < filled; i++) callByChance("barrel 1 5 0 99 0 9 0 5", 0);
        for (int i = 0; i < 6; i++) callByChance("tier " + i + " " + i + " 0 0 0 9", 0);
        String[] all = CALLS.split(";");
        for (int i = 0; i < calls && !check.hasWrong(); i++) {
            if (random.nextInt(12) == 0) tellRules();
            else callByChance(all[random.nextInt(all.length)], 10);
        }
        if (check.hasWrong()) System.out.println(run);
    }

    private void callByChance(String told, int wildPercent) throws Exception {
        String[] words = told.split(" ");
        Object[] values = new Object[(words.length - 1) / 2];
        for (int i = 0; i < values.length; i++) {
            int lo = Integer.parseInt(words[1 + 2 * i]), hi = Integer.parseInt(words[2 + 2 * i]);
            values[i] = (int) (lo + (long) (random.nextDouble() * ((long) hi - lo + 1)));
            if (random.nextInt(100) < wildPercent) values[i] = wild(lo, hi);
        }
        call(words[0], values);
    }

    private int wild(int lo, int hi) {
        switch (random.nextInt(3)) {
            case 0: return lo - 1;
            case 1: return hi + 1;
            default: return EDGES[random.nextInt(EDGES.length)];
        }
    }

    private void call(String name, Object... values) throws Exception {
        Method[] both = METHODS.get(name);
        int want = (int) both[1].invoke(plain, values);
        String call = name + java.util.Arrays.toString(values);
        run.append(call).append(" -> ").append(want).append('\n');
        check.due(call, (int) both[0].invoke(cellar, values), want);
    }

    // ---- texts of rules, right ones and spoilt ones

    private void tellRules() throws Exception {
        StringBuilder text = new StringBuilder();
        int rules = random.nextInt(20) == 0 ? 9 : random.nextInt(4);
        for (int i = 0; i < rules; i++) text.append(rule(rules > 4));
        if (random.nextInt(3) == 0) spoil(text);
        for (int i = 0; i < text.length(); i += 8) {
            int n = Math.min(8, text.length() - i);
            long eight = 0;
            for (int j = n - 1; j >= 0; j--) eight = eight << 8 | text.charAt(i + j) & 255;
            call("feed", eight, n);
        }
        call("rules");
        call("many", 1);
    }

    private void spoil(StringBuilder text) {
        if (text.length() == 0) text.append(' ');
        int at = random.nextInt(text.length());
        switch (random.nextInt(4)) {
            case 0: text.setLength(at); break;
            case 1: text.deleteCharAt(at); break;
            case 2: text.setCharAt(at, (char) random.nextInt(256)); break;
            default: text.insert(at, one("( |) |; |12345 |not |stake |if |tide |= |barrel |\t|9"));
        }
    }

    private String one(String choices) {
        String[] all = choices.split("\\|");
        return all[random.nextInt(all.length)];
    }

    private String rule(boolean brief) {
        String deed = one("stake|leave|bung|bung") + one("| ") + ";" + one("| |");
        String kind = one("barrel|vat|tun|butt|keg|cask");
        if (brief || random.nextInt(4) == 0) return kind + " " + deed;
        return kind + one(" if | if  ") + condition(0) + " " + deed;
    }

    private String condition(int open) {
        StringBuilder text = new StringBuilder(single(open));
        while (random.nextInt(3) == 0) text.append(one(" or | and ")).append(single(open));
        return text.toString();
    }

    private String single(int open) {
        String not = one("|||not |not not ");
        if (random.nextInt(4) == 0 && open < 4) return not + "(" + one("| ") + condition(open + 1) + ")";
        return not + value() + one("| ") + one("<|=|>") + one("| ") + value();
    }

    private String value() {
        if (random.nextInt(2) == 0) return one("tide|fill|chalk|rise|number");
        return String.valueOf(random.nextInt(one("3|10|60|9999").equals("9999") ? 10000 : 50));
    }
}
