import java.util.ArrayList;
import java.util.HashMap;
import java.util.List;
import java.util.Map;
import java.util.function.Predicate;

/**
 * The document told a second time, as plainly and slowly as can be, to hold FloodCellar against:
 * everything is copied, plans are written out one by one, and the host's refusals come from the
 * Java machine itself.
 */
final class PlainCellar {
    static final int BAD = -1, FULL = -2, NONE = -3, STATE = -4;

    // ---- things, with the bodies of the document

    static class Thing {
        final PlainCellar in;
        final int n;

        Thing(PlainCellar in, int n) {
            this.in = in;
            this.n = n;
        }

        int a() {
            return in.w.barrels.get(n).tier;
        }

        void ran(int body) {
            if (in.trace.size() < 30) in.trace.add(body);
        }

        int rolls(int x) { ran(10); return x * 2 + 3 * n; }
        int seeps(int x) { ran(11); return rolls(x) - 4 * a(); }
        int hoops(int x) { ran(12); return x / (n + a() - 2); }
        int floods(int x) { ran(13); return seeps(x) ^ hoops(x); }
    }

    static class VatThing extends Thing {
        VatThing(PlainCellar in, int n) { super(in, n); }
        @Override int rolls(int x) { ran(20); return super.rolls(x) + 16; }
    }

    static class TunThing extends Thing {
        TunThing(PlainCellar in, int n) { super(in, n); }
        @Override int seeps(int x) { ran(30); return super.seeps(x) ^ 17; }
    }

    static class KegThing extends Thing {
        KegThing(PlainCellar in, int n) { super(in, n); }
        @Override int hoops(int x) { ran(40); return super.hoops(x) * 3; }
    }

    static class ButtThing extends TunThing {
        ButtThing(PlainCellar in, int n) { super(in, n); }
        @Override int rolls(int x) { ran(50); return super.rolls(x - 7); }
        @Override int floods(int x) { ran(51); return super.floods(x) + seeps(a()); }
    }

    static class CaskThing extends KegThing {
        CaskThing(PlainCellar in, int n) { super(in, n); }
        @Override int seeps(int x) { ran(60); return 0 - super.seeps(x); }
        @Override int hoops(int x) { ran(61); return super.hoops(x) - rolls(n); }
    }

    private Thing thingOf(int n) {
        switch (w.barrels.get(n).kind) {
            case "vat": return new VatThing(this, n);
            case "tun": return new TunThing(this, n);
            case "butt": return new ButtThing(this, n);
            case "keg": return new KegThing(this, n);
            default: return new CaskThing(this, n);
        }
    }

    // ---- the world

    static final List<String> KINDS = List.of("barrel", "vat", "tun", "butt", "keg", "cask");
    static final Map<String, String> ABOVE =
        Map.of("vat", "barrel", "tun", "barrel", "keg", "barrel", "butt", "tun", "cask", "keg");

    static boolean isA(String kind, String wanted) {
        for (String k = kind; k != null; k = ABOVE.get(k)) {
            if (k.equals(wanted)) return true;
        }
        return false;
    }

    static final class Cask0 {
        String kind;
        int fill, chalk, tier;
        boolean staked;

        Cask0 copy() {
            Cask0 c = new Cask0();
            c.kind = kind;
            c.fill = fill;
            c.chalk = chalk;
            c.tier = tier;
            c.staked = staked;
            return c;
        }
    }

    record Rule(String kind, Predicate<Map<String, Integer>> when, String deed) { }

    record Report(int k, int asked, int least, int most) { }

    static final class World {
        List<Cask0> barrels = new ArrayList<>();
        Map<Integer, Integer> water = new HashMap<>();
        int[] step = new int[6];
        int[] grate = new int[6];
        int end = 12, tide, score, z = 1;
        List<Rule> rules = List.of();
        List<Report> reports = new ArrayList<>();

        World copy() {
            World c = new World();
            for (Cask0 b : barrels) c.barrels.add(b.copy());
            c.water.putAll(water);
            c.step = step.clone();
            c.grate = grate.clone();
            c.end = end;
            c.tide = tide;
            c.score = score;
            c.z = z;
            c.rules = rules;
            c.reports.addAll(reports);
            return c;
        }

        int water(int t) { return t > 15 ? 0 : water.getOrDefault(t, 9); }
        int rise() { return water(tide) / 4; }
        int salt() { return water(tide) % 4; }
        boolean over() { return tide >= end; }

        int leakOf(String kind) {
            switch (kind) {
                case "barrel": return 2 + rise();
                case "vat": return 1;
                case "tun": return 2 * leakOf("barrel");
                case "butt": return Math.max(0, leakOf("tun") - 4);
                case "keg": return rise() * salt();
                default: return leakOf("keg") + tide / 4;
            }
        }

        int leaks(Cask0 b) {
            int l = leakOf(b.kind) + grate[b.tier];
            for (Cask0 o : barrels) if (o.staked && o.tier + 1 == b.tier) l -= 2;
            return Math.max(0, l);
        }

        int floatOf(String kind, Cask0 b) {
            switch (kind) {
                case "barrel": return Math.max(0, 9 - b.fill / 11);
                case "vat": return 0;
                case "tun": return floatOf("barrel", b) / 2;
                case "butt": return floatOf("tun", b) + b.chalk / 3;
                case "keg": return floatOf("barrel", b) + b.chalk / 2;
                default: return Math.min(9, floatOf("keg", b) + barrels.indexOf(b));
            }
        }

        int floats(Cask0 b) { return floatOf(b.kind, b); }

        int pays(Cask0 b) {
            boolean does = !b.staked && b.fill > 0 && floats(b) + rise() <= 4 + step[b.tier];
            return does ? 3 + b.fill / 9 : 0;
        }

        String will(Cask0 b) {
            Map<String, Integer> facts = Map.of("tide", tide, "fill", b.fill, "chalk", b.chalk,
                "rise", rise(), "number", barrels.indexOf(b));
            for (Rule r : rules) if (isA(b.kind, r.kind()) && r.when().test(facts)) return r.deed();
            return "stake";
        }

        boolean may(Cask0 b) { return will(b).equals("stake") && pays(b) > 0; }

        int restAct() {
            for (int k = 0; k < barrels.size(); k++) if (may(barrels.get(k))) return k + 1;
            return 0;
        }

        int go(int act) {
            int worth = 0;
            if (act > 0 && !barrels.get(act - 1).staked) {
                Cask0 b = barrels.get(act - 1);
                String will = will(b);
                if (will.equals("stake")) {
                    worth += pays(b);
                    b.staked = pays(b) > 0;
                } else if (will.equals("bung")) {
                    b.chalk = Math.min(9, b.chalk + 2);
                    b.fill = Math.min(99, b.fill + 3);
                    if (salt() == 0) worth++;
                }
            }
            List<Integer> lost = new ArrayList<>();
            for (Cask0 b : barrels) lost.add(b.staked ? leaks(b) / 3 : leaks(b));
            for (int k = 0; k < barrels.size(); k++) {
                barrels.get(k).fill = Math.max(0, barrels.get(k).fill - lost.get(k));
            }
            for (Cask0 b : barrels) if (b.staked) worth += b.fill / 30;
            tide++;
            return worth;
        }

        int rest(int n) {
            int worth = 0;
            while (n-- > 0 && !over()) worth += go(restAct());
            return worth;
        }

        int staked() {
            int set = 0;
            for (int k = 0; k < barrels.size(); k++) if (barrels.get(k).staked) set += 1 << k;
            return set;
        }

        int fill() {
            int all = 0;
            for (Cask0 b : barrels) all += b.fill;
            return all;
        }
    }

    World w = new World();
    World kept;
    List<Integer> tape = new ArrayList<>();
    List<Integer> trace = new ArrayList<>();
    List<int[]> rows = new ArrayList<>();
    Object[] sheets = new Object[4];
    Object[] shelves = new Object[4];

    private static boolean in(int v, int lo, int hi) { return lo <= v && v <= hi; }
    private boolean is(int k) { return in(k, 0, w.barrels.size() - 1); }

    int barrel(int kind, int fill, int chalk, int tier) {
        if (!in(kind, 1, 5) || !in(fill, 0, 99) || !in(chalk, 0, 9) || !in(tier, 0, 5)) return BAD;
        if (w.barrels.size() == 6) return FULL;
        Cask0 b = new Cask0();
        b.kind = KINDS.get(kind);
        b.fill = fill;
        b.chalk = chalk;
        b.tier = tier;
        w.barrels.add(b);
        return w.barrels.size() - 1;
    }

    int barrelOf(int k, int what) {
        if (!is(k) || !in(what, 0, 9)) return BAD;
        Cask0 b = w.barrels.get(k);
        int[] all = {KINDS.indexOf(b.kind), b.fill, b.chalk, b.tier, b.staked ? 1 : 0, w.leaks(b), w.floats(b),
            w.pays(b), w.may(b) ? 1 : 0, List.of("stake", "leave", "bung").indexOf(w.will(b))};
        return all[what];
    }

    int change(int k, int what, int v) {
        if (!is(k) || !in(what, 1, 4) || !in(v, 0, new int[] {0, 99, 9, 5, 1}[what])) return BAD;
        int was = barrelOf(k, what);
        Cask0 b = w.barrels.get(k);
        if (what == 1) b.fill = v;
        if (what == 2) b.chalk = v;
        if (what == 3) b.tier = v;
        if (what == 4) b.staked = v == 1;
        return was;
    }

    int remake(int k, int kind) {
        if (!is(k) || !in(kind, 1, 5)) return BAD;
        int was = barrelOf(k, 0);
        w.barrels.get(k).kind = KINDS.get(kind);
        return was;
    }

    int water(int tide, int v) {
        if (!in(tide, 0, 15) || !in(v, 0, 15)) return BAD;
        int was = w.water(tide);
        w.water.put(tide, v);
        return was;
    }

    int tier(int f, int what, int v) {
        int was = tierOf(f, what);
        if (was == BAD || !in(v, 0, 9)) return BAD;
        if (what == 0) w.step[f] = v; else w.grate[f] = v;
        return was;
    }

    int tierOf(int f, int what) {
        if (!in(f, 0, 5) || !in(what, 0, 1)) return BAD;
        return what == 0 ? w.step[f] : w.grate[f];
    }

    int ends(int v) {
        if (!in(v, 1, 16)) return BAD;
        if (v < w.tide) return STATE;
        int was = w.end;
        w.end = v;
        return was;
    }

    int anew() {
        int was = w.tide;
        w.tide = 0;
        w.score = 0;
        for (Cask0 b : w.barrels) b.staked = false;
        return was;
    }

    int state(int what) {
        if (!in(what, 0, 6)) return BAD;
        return new int[] {w.tide, w.end, w.score, w.over() ? 1 : 0, w.staked(), w.water(w.tide), w.fill()}[what];
    }

    int feed(long eight, int n) {
        if (!in(n, 1, 8)) return BAD;
        if (tape.size() + n > 200) return FULL;
        for (int i = 0; i < n; i++) tape.add((int) (eight >>> 8 * i & 255));
        return tape.size();
    }

    // ---- the rules: a reader that stops by an exception at the first wrong piece

    private static final class Fault extends Exception {
        private static final long serialVersionUID = 1;
        final int place;

        Fault(int place) { this.place = place; }
    }

    private final class Reader {
        final StringBuilder text = new StringBuilder();
        int at;

        Reader() {
            for (int b : tape) text.append((char) b);
        }

        String peek() {
            while (at < text.length() && text.charAt(at) == ' ') at++;
            if (at == text.length()) return "";
            String classes = "abcdefghijklmnopqrstuvwxyz 0123456789";
            String mine = "";
            for (String c : classes.split(" ")) if (c.indexOf(text.charAt(at)) >= 0) mine = c;
            int to = at + 1;
            while (to < text.length() && mine.indexOf(text.charAt(to)) >= 0) to++;
            return text.substring(at, to);
        }

        String next(List<String> allowed) throws Fault {
            String p = peek();
            if (!allowed.contains(p)) throw new Fault(at);
            at += p.length();
            return p;
        }

        boolean skip(String word) {
            if (!peek().equals(word)) return false;
            at += word.length();
            return true;
        }

        List<Rule> text() throws Fault {
            List<Rule> found = new ArrayList<>();
            while (!peek().isEmpty()) {
                if (found.size() == 8) throw new Fault(at);
                String kind = next(KINDS);
                Predicate<Map<String, Integer>> when = skip("if") ? cond(0) : f -> true;
                String deed = next(List.of("stake", "leave", "bung"));
                next(List.of(";"));
                found.add(new Rule(kind, when, deed));
            }
            return found;
        }

        Predicate<Map<String, Integer>> cond(int open) throws Fault {
            Predicate<Map<String, Integer>> p = all(open);
            while (skip("or")) p = p.or(all(open));
            return p;
        }

        Predicate<Map<String, Integer>> all(int open) throws Fault {
            Predicate<Map<String, Integer>> p = one(open);
            while (skip("and")) p = p.and(one(open));
            return p;
        }

        Predicate<Map<String, Integer>> one(int open) throws Fault {
            if (skip("not")) return one(open).negate();
            if (peek().equals("(")) {
                if (open == 3) throw new Fault(at);
                at++;
                Predicate<Map<String, Integer>> p = cond(open + 1);
                next(List.of(")"));
                return p;
            }
            String left = value();
            String sign = next(List.of("<", "=", ">"));
            String right = value();
            return f -> {
                int c = Integer.compare(of(left, f), of(right, f));
                return sign.equals("<") ? c < 0 : sign.equals("=") ? c == 0 : c > 0;
            };
        }

        String value() throws Fault {
            String p = peek();
            if (p.matches("[0-9]{1,4}")) {
                at += p.length();
                return p;
            }
            return next(List.of("tide", "fill", "chalk", "rise", "number"));
        }

        int of(String value, Map<String, Integer> facts) {
            Integer fact = facts.get(value);
            return fact != null ? fact : Integer.parseInt(value);
        }
    }

    int rules() {
        Reader reader = new Reader();
        tape.clear();
        try {
            w.rules = reader.text();
            return w.rules.size();
        } catch (Fault f) {
            return -100 - f.place;
        }
    }

    // ---- tides and what is asked of them

    private int go(int act) {
        int worth = w.go(act);
        w.score += worth;
        return worth;
    }

    int tide() { return w.over() ? STATE : go(w.restAct()); }
    int on(int n) { return in(n, 0, 16) ? w.copy().rest(n) : BAD; }

    int when(int k) {
        if (!is(k)) return BAD;
        for (int n = 0; n <= 16; n++) {
            World c = w.copy();
            c.rest(n);
            if (c.barrels.get(k).staked) return n == 0 ? NONE : c.tide - 1;
        }
        return NONE;
    }

    private int most(int k, int limit, boolean chalk) {
        if (!is(k)) return BAD;
        int best = 0, most = -1;
        for (int v = 0; v <= limit; v++) {
            World c = w.copy();
            if (chalk) c.barrels.get(k).chalk = v; else c.barrels.get(k).tier = v;
            int worth = c.rest(16);
            if (worth > most) { most = worth; best = v; }
        }
        return best;
    }

    int chalkFor(int k) { return most(k, 9, true); }
    int tierFor(int k) { return most(k, 5, false); }

    int dry(int k) {
        if (!is(k)) return BAD;
        for (int n = 0; n <= 16; n++) {
            World c = w.copy();
            c.rest(n);
            if (c.barrels.get(k).fill == 0) return c.tide;
        }
        return NONE;
    }

    int least(int k) {
        if (!is(k)) return BAD;
        for (int step = 0; step <= 9; step++) {
            World c = w.copy();
            c.step[c.barrels.get(k).tier] = step;
            if (c.pays(c.barrels.get(k)) > 0) return step;
        }
        return NONE;
    }

    int left(int n, int what) {
        if (!in(n, 0, 16) || !in(what, 0, 1)) return BAD;
        World c = w.copy();
        c.rest(n);
        return what == 0 ? c.fill() : c.staked();
    }

    int rafts(int what) {
        if (what != -1 && !is(what)) return BAD;
        int size = w.barrels.size();
        int[] mark = new int[size];
        for (int k = 0; k < size; k++) mark[k] = k;
        for (int i = 0; i < size; i++) {
            for (int j = 0; j < size; j++) {
                Cask0 x = w.barrels.get(i), y = w.barrels.get(j);
                if (x.staked || y.staked || x.tier != y.tier && w.floats(x) != w.floats(y)) continue;
                int from = mark[i], to = mark[j];
                for (int k = 0; k < size; k++) if (mark[k] == from) mark[k] = to;
            }
        }
        int marks = 0, set = 0;
        for (int k = 0; k < size; k++) {
            if (w.barrels.get(k).staked) continue;
            marks |= 1 << mark[k];
            if (what >= 0 && mark[k] == mark[what] && !w.barrels.get(what).staked) set |= 1 << k;
        }
        return what == -1 ? Integer.bitCount(marks) : set;
    }

    // ---- plans, written out

    private List<int[]> allPlans(int n) {
        int length = Math.max(0, Math.min(n, w.end - w.tide));
        List<int[]> all = new ArrayList<>();
        all.add(new int[0]);
        for (int i = 0; i < length; i++) {
            List<int[]> longer = new ArrayList<>();
            for (int[] p : all) {
                for (int act = 0; act <= w.barrels.size(); act++) {
                    int[] q = java.util.Arrays.copyOf(p, p.length + 1);
                    q[p.length] = act;
                    longer.add(q);
                }
            }
            all = longer;
        }
        return all;
    }

    private World after(int[] plan, int[] worth) {
        World c = w.copy();
        for (int act : plan) worth[0] += c.go(act);
        return c;
    }

    private List<int[]> bestPlans(int n, int[] most) {
        List<int[]> found = new ArrayList<>();
        most[0] = -1;
        for (int[] p : allPlans(n)) {
            int[] worth = {0};
            after(p, worth);
            if (worth[0] > most[0]) {
                most[0] = worth[0];
                found.clear();
            }
            if (worth[0] == most[0]) found.add(p);
        }
        return found;
    }

    int best(int n) {
        int[] most = {0};
        if (!in(n, 0, 4)) return BAD;
        bestPlans(n, most);
        return most[0];
    }

    int ith(int n, int i) {
        if (!in(n, 0, 4) || !in(i, 0, 3)) return BAD;
        int[] first = bestPlans(n, new int[1]).get(0);
        return i < first.length ? first[i] : NONE;
    }

    int ways(int n) { return in(n, 0, 4) ? bestPlans(n, new int[1]).size() : BAD; }

    private boolean isSet(int barrels) { return in(barrels, 0, (1 << w.barrels.size()) - 1); }

    int chart(int n, int barrels) {
        if (!in(n, 0, 4) || !isSet(barrels)) return BAD;
        int fewest = 99;
        for (int[] p : allPlans(n)) {
            int acts = 0;
            for (int act : p) if (act != 0) acts++;
            if ((after(p, new int[1]).staked() & barrels) == barrels) fewest = Math.min(fewest, acts);
        }
        return fewest == 99 ? NONE : fewest;
    }

    int bars(int n, int barrels) {
        if (!in(n, 0, 4) || !isSet(barrels)) return BAD;
        for (int k = 0; k < 6; k++) if ((barrels >> k & 1) == 1 && chart(n, 1 << k) == NONE) return k;
        return NONE;
    }

    private static int value(World at, int n, boolean first) {
        if (n == 0 || at.over()) return 0;
        int value = first ? Integer.MIN_VALUE : Integer.MAX_VALUE;
        for (int act = 0; act <= at.barrels.size(); act++) {
            World c = at.copy();
            int v = c.go(act) + value(c, n - 1, !first);
            value = first ? Math.max(value, v) : Math.min(value, v);
        }
        return value;
    }

    int game(int n) { return in(n, 1, 4) ? value(w, n, true) : BAD; }

    int play(int n) {
        if (!in(n, 1, 4)) return BAD;
        if (w.over()) return NONE;
        int due = game(n);
        for (int act = 0; ; act++) {
            World c = w.copy();
            if (c.go(act) + value(c, n - 1, false) == due) return act;
        }
    }

    // ---- strangers

    int report(int k, int asked, int least, int most) {
        if (!in(k, 0, 15) || !in(asked, 0, 1) || least < 0 || most > (asked == 0 ? 99 : 16) || most < least) return BAD;
        if (w.reports.size() == 6) return FULL;
        w.reports.add(new Report(k, asked, least, most));
        return w.reports.size() - 1;
    }

    int forget() {
        int were = w.reports.size();
        w.reports.clear();
        return were;
    }

    private boolean fits(int kind, int chalk, int fill, List<Report> reports) {
        for (Report r : reports) {
            World lone = new World();
            lone.water = w.water;
            Cask0 b = new Cask0();
            b.kind = KINDS.get(kind);
            b.chalk = chalk;
            b.fill = fill;
            lone.barrels.add(b);
            int paid = 0;
            for (int i = 0; i < r.k(); i++) {
                if (lone.pays(b) > 0) paid++;
                lone.go(0);
            }
            if (!in(r.asked() == 0 ? b.fill : paid, r.least(), r.most())) return false;
        }
        return true;
    }

    private List<int[]> fitting(List<Report> reports) {
        List<int[]> found = new ArrayList<>();
        for (int kind = 1; kind <= 5; kind++) {
            for (int chalk = 0; chalk <= 9; chalk++) {
                for (int fill = 9; fill <= 99; fill += 10) {
                    if (fits(kind, chalk, fill, reports)) found.add(new int[] {kind, chalk, fill});
                }
            }
        }
        return found;
    }

    int lone(int what) {
        if (!in(what, 0, 3)) return BAD;
        List<int[]> found = fitting(w.reports);
        if (what == 0) return found.size();
        return found.isEmpty() ? NONE : found.get(0)[what - 1];
    }

    int liar() {
        if (!fitting(w.reports).isEmpty()) return NONE;
        for (int i = 0; i < w.reports.size(); i++) {
            List<Report> others = new ArrayList<>(w.reports);
            others.remove(i);
            if (!fitting(others).isEmpty()) return i;
        }
        return NONE;
    }

    int seed(int v) {
        int was = w.z;
        w.z = v;
        return was;
    }

    private static int lotOf(World c) {
        c.z = c.z * 1103515245 + 12345;
        return c.go((c.z >>> 16) % (c.barrels.size() + 1));
    }

    int lot() {
        if (w.over()) return STATE;
        int worth = lotOf(w);
        w.score += worth;
        return worth;
    }

    int times(int n, int v) {
        if (!in(n, 1, 40) || !in(v, 0, 999)) return BAD;
        int count = 0, z = w.z;
        for (int i = 0; i < n; i++) {
            World c = w.copy();
            c.z = z;
            int worth = 0;
            while (!c.over()) worth += lotOf(c);
            z = c.z;
            if (worth >= v) count++;
        }
        return count;
    }

    // ---- rows

    int prove(int n) {
        if (!in(n, 0, 4)) return BAD;
        rows.clear();
        World c = w.copy();
        for (int act : bestPlans(n, new int[1]).get(0)) {
            int worth = c.go(act);
            rows.add(new int[] {act, worth, c.staked()});
        }
        return rows.size();
    }

    int row(int k, int what) { return in(k, 0, rows.size() - 1) && in(what, 0, 2) ? rows.get(k)[what] : -9; }

    int alterRow(int k, int what, int v) {
        if (!in(k, 0, rows.size() - 1) || !in(what, 0, 2)) return -9;
        int was = rows.get(k)[what];
        rows.get(k)[what] = v;
        return was;
    }

    int judge() {
        World c = w.copy();
        for (int k = 0; k < rows.size(); k++) {
            int[] r = rows.get(k);
            if (c.over() || !in(r[0], 0, w.barrels.size())) return k + 1;
            if (c.go(r[0]) != r[1] || c.staked() != r[2]) return k + 1;
        }
        return 0;
    }

    // ---- the host: what the Java machine throws is what it refuses

    private static int refusal(RuntimeException e) {
        if (e instanceof NullPointerException) return -11;
        if (e instanceof ArrayIndexOutOfBoundsException) return -12;
        if (e instanceof ClassCastException) return -13;
        if (e instanceof NegativeArraySizeException) return -14;
        if (e instanceof ArithmeticException) return -15;
        throw e;
    }

    int sheet(int sheet, int sort, int n) {
        if (!in(sheet, 0, 3) || !in(sort, -1, 4) || sort != -1 && n > 40) return BAD;
        try {
            Object made = null;
            if (sort == 0) made = new byte[n];
            if (sort == 1) made = new short[n];
            if (sort == 2) made = new int[n];
            if (sort == 3) made = new long[n];
            if (sort == 4) made = new boolean[n];
            sheets[sheet] = made;
            return 1;
        } catch (RuntimeException e) {
            return refusal(e);
        }
    }

    int write(int sheet, int i, int v) {
        if (!in(sheet, 0, 3)) return BAD;
        Object s = sheets[sheet];
        try {
            if (s instanceof byte[] b) b[i] = (byte) v;
            else if (s instanceof short[] h) h[i] = (short) v;
            else if (s instanceof long[] l) l[i] = v;
            else if (s instanceof boolean[] t) t[i] = v != 0;
            else ((int[]) s)[i] = v;
            return 1;
        } catch (RuntimeException e) {
            return refusal(e);
        }
    }

    int item(int sheet, int sort, int i) {
        if (!in(sheet, 0, 3) || !in(sort, 0, 4)) return BAD;
        Object s = sheets[sheet];
        try {
            if (sort == 0) return ((byte[]) s)[i];
            if (sort == 1) return ((short[]) s)[i];
            if (sort == 2) return ((int[]) s)[i];
            if (sort == 3) return (int) ((long[]) s)[i];
            return ((boolean[]) s)[i] ? 1 : 0;
        } catch (RuntimeException e) {
            return refusal(e);
        }
    }

    int goAll(int sheet, int i, int n) {
        if (!in(sheet, 0, 3) || !in(n, 0, 20)) return BAD;
        try {
            byte[] acts = (byte[]) sheets[sheet];
            int worth = 0 * acts.length;
            for (int j = 0; j < n; j++) {
                int act = acts[i + j];
                if (in(act, 0, w.barrels.size()) && !w.over()) worth += go(act);
            }
            return worth;
        } catch (RuntimeException e) {
            return refusal(e);
        }
    }

    int wouldBe(int sheet, int i, int n) {
        if (!in(sheet, 0, 3) || !in(n, 0, 20)) return BAD;
        try {
            byte[] acts = (byte[]) sheets[sheet];
            World c = w.copy();
            int worth = 0 * acts.length;
            for (int j = 0; j < n; j++) {
                int act = acts[i + j];
                if (!in(act, 0, w.barrels.size()) || c.over()) return STATE;
                worth += c.go(act);
            }
            return worth;
        } catch (RuntimeException e) {
            return refusal(e);
        }
    }

    int shelf(int shelf, int what, int n) {
        if (!in(shelf, 0, 3) || !in(what, 0, 2) || what == 0 && !is(n) || what == 1 && !in(n, 0, 3)) return BAD;
        // A number stands for a BARREL, which may be another or none when it is asked for.
        shelves[shelf] = what == 0 ? Integer.valueOf(n) : what == 1 ? sheets[n] : null;
        return 1;
    }

    private Object onShelf(int shelf) {
        Object held = shelves[shelf];
        if (!(held instanceof Integer)) return held;
        int n = (Integer) held;
        return is(n) ? thingOf(n) : null;
    }

    int taken(int shelf, int as) {
        if (!in(shelf, 0, 3) || !in(as, 0, 5) && !in(as, 10, 14)) return BAD;
        Object held = onShelf(shelf);
        try {
            switch (as) {
                case 0: return ((Thing) held).n;
                case 1: return ((VatThing) held).n;
                case 2: return ((TunThing) held).n;
                case 3: return ((ButtThing) held).n;
                case 4: return ((KegThing) held).n;
                case 5: return ((CaskThing) held).n;
                case 10: return ((byte[]) held).length;
                case 11: return ((short[]) held).length;
                case 12: return ((int[]) held).length;
                case 13: return ((long[]) held).length;
                default: return ((boolean[]) held).length;
            }
        } catch (RuntimeException e) {
            return refusal(e);
        }
    }

    int act(int shelf, int act, int x) {
        trace.clear();
        if (!in(shelf, 0, 3) || !in(act, 0, 3) || !(onShelf(shelf) instanceof Thing thing)) return 0;
        try {
            if (act == 0) return thing.rolls(x);
            if (act == 1) return thing.seeps(x);
            return act == 2 ? thing.hoops(x) : thing.floods(x);
        } catch (RuntimeException e) {
            return refusal(e);
        }
    }

    int trace(int i) { return in(i, 0, trace.size() - 1) ? trace.get(i) : NONE; }

    int many(int what) {
        if (!in(what, 0, 6)) return BAD;
        return new int[] {w.barrels.size(), w.rules.size(), Integer.bitCount(w.staked()), w.reports.size(),
            rows.size(), tape.size(), trace.size()}[what];
    }

    int keep() {
        kept = w.copy();
        return 1;
    }

    int again() {
        if (kept == null) return NONE;
        w = kept.copy();
        return w.barrels.size();
    }
}
