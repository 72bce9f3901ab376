import java.lang.management.ManagementFactory;
import java.lang.reflect.Array;
import java.lang.reflect.Field;
import java.lang.reflect.Modifier;
import java.util.IdentityHashMap;
import java.util.Map;
import java.util.Random;

/** No call throws, whatever its arguments; and none makes objects, so that a long run keeps to its room. */
public final class RoomTest {
    private static final int CALLS = 512;
    private static final Check CHECK = new Check("RoomTest");
    private static final com.sun.management.ThreadMXBean THREADS =
        (com.sun.management.ThreadMXBean) ManagementFactory.getThreadMXBean();

    public static void main(String[] args) throws Exception {
        int[] sums = new int[2];
        for (int seed = 0; seed < 300; seed++) {
            int first = goThrough(seed);
            CHECK.due("the same calls give the same answers, run " + seed, goThrough(seed), first);
            sums[seed % 2] += first;
        }
        CHECK.holds("answers differ by run", sums[0] != sums[1]);
        makesNothing();
        takesLittle();
        CHECK.end();
    }

    private static int goThrough(int seed) {
        Random random = new Random(seed);
        FloodCellar x = new FloodCellar();
        int sum = 0;
        for (int i = 0; i < CALLS; i++) {
            int call = random.nextInt(51);
            try {
                sum = sum * 31 + call(x, call, any(random), any(random), any(random), any(random));
            } catch (RuntimeException | StackOverflowError e) {
                CHECK.holds("run " + seed + ", call " + i + " (" + call + ") does not throw " + e, false);
            }
        }
        return sum;
    }

    private static int any(Random random) {
        switch (random.nextInt(12)) {
            case 0: return random.nextInt();
            case 1: return random.nextBoolean() ? Integer.MAX_VALUE : Integer.MIN_VALUE;
            case 2: return random.nextInt(120) - 10;
            case 3: return random.nextInt(20) - 2;
            default: return random.nextInt(6);
        }
    }

    private static void makesNothing() {
        FloodCellar x = new FloodCellar();
        for (int k = 0; k < 6; k++) x.barrel(1 + k % 5, 90, k, k);
        x.report(15, 1, 0, 3);
        x.sheet(0, 0, 40);
        int sum = 0;
        for (int round = 0; round < 3; round++) {
            long before = THREADS.getCurrentThreadAllocatedBytes();
            for (int call = 0; call < 51; call++) sum += call(x, call, 4, 1, 1, 3);
            for (byte b : "keg if not (fill < 3 or tide = 2) and chalk > 1 bung; ;".getBytes()) sum += x.feed(b, 1);
            sum += x.rules();
            long made = THREADS.getCurrentThreadAllocatedBytes() - before;
            // The first rounds still load classes; the text of the rules itself is a few hundred bytes.
            if (round == 2) CHECK.holds("no objects are made, but " + made + " bytes were (" + sum + ")", made < 2000);
        }
    }

    /** A run has room for 600,000 objects and arrays, 7,300,000 fields and elements: for 2,000 cellars, if they stay this small. */
    private static void takesLittle() throws Exception {
        Map<Object, Boolean> seen = new IdentityHashMap<>();
        int elements = count(new FloodCellar(), seen);
        CHECK.holds(seen.size() + " objects and arrays in a cellar are 300 at most", seen.size() <= 300);
        CHECK.holds(elements + " fields and elements in a cellar are 3,600 at most", elements <= 3600);
    }

    private static int count(Object it, Map<Object, Boolean> seen) throws Exception {
        if (it == null || seen.put(it, true) != null) return 0;
        int elements = 0;
        if (it.getClass().isArray()) {
            for (int i = 0; i < Array.getLength(it); i++) {
                elements++;
                if (it instanceof Object[] all) elements += count(all[i], seen);
            }
            return elements;
        }
        for (Class<?> c = it.getClass(); c != Object.class; c = c.getSuperclass()) {
            for (Field f : c.getDeclaredFields()) {
                if (Modifier.isStatic(f.getModifiers())) continue;
                elements++;
                f.setAccessible(true);
                if (!f.getType().isPrimitive()) elements += count(f.get(it), seen);
            }
        }
        return elements;
    }

    private static int call(FloodCellar x, int call, int a, int b, int c, int d) {
        if (call < 17) return callVault(x, call, a, b, c, d);
        return call < 36 ? callAsked(x, call, a, b, c, d) : callHost(x, call, a, b, c);
    }

    private static int callVault(FloodCellar x, int call, int a, int b, int c, int d) {
        switch (call) {
            case 0: return x.barrel(a, b, c, d);
            case 1: return x.barrelOf(a, b);
            case 2: return x.change(a, b, c);
            case 3: return x.remake(a, b);
            case 4: return x.water(a, b);
            case 5: return x.tier(a, b, c);
            case 6: return x.tierOf(a, b);
            case 7: return x.ends(a);
            case 8: return x.anew();
            case 9: return x.state(a);
            case 10: return x.feed((long) a << 32 | b, c);
            case 11: return x.rules();
            case 12: return x.tide();
            case 13: return x.on(a);
            case 14: return x.when(a);
            case 15: return x.chalkFor(a);
            default: return x.tierFor(a);
        }
    }

    private static int callAsked(FloodCellar x, int call, int a, int b, int c, int d) {
        switch (call) {
            case 17: return x.dry(a);
            case 18: return x.least(a);
            case 19: return x.left(a, b);
            case 20: return x.rafts(a);
            case 21: return x.best(a);
            case 22: return x.ith(a, b);
            case 23: return x.ways(a);
            case 24: return x.chart(a, b);
            case 25: return x.bars(a, b);
            case 26: return x.game(a);
            case 27: return x.play(a);
            case 28: return x.report(a, b, c, d);
            case 29: return x.forget();
            case 30: return x.lone(a);
            case 31: return x.liar();
            case 32: return x.seed(a);
            case 33: return x.lot();
            case 34: return x.times(a, b);
            default: return x.prove(a);
        }
    }

    private static int callHost(FloodCellar x, int call, int a, int b, int c) {
        switch (call) {
            case 36: return x.row(a, b);
            case 37: return x.alterRow(a, b, c);
            case 38: return x.judge();
            case 39: return x.sheet(a, b, c);
            case 40: return x.write(a, b, c);
            case 41: return x.item(a, b, c);
            case 42: return x.goAll(a, b, c);
            case 43: return x.wouldBe(a, b, c);
            case 44: return x.shelf(a, b, c);
            case 45: return x.taken(a, b);
            case 46: return x.act(a, b, c);
            case 47: return x.trace(a);
            case 48: return x.many(a);
            case 49: return x.keep();
            default: return x.again();
        }
    }
}
