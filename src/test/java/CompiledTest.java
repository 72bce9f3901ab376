import java.io.File;
import java.io.PrintWriter;
import java.io.StringWriter;
import java.util.ArrayList;
import java.util.HashMap;
import java.util.List;
import java.util.Map;
import java.util.Set;
import java.util.TreeSet;
import java.util.regex.Matcher;
import java.util.regex.Pattern;
import java.util.spi.ToolProvider;

/** What the compiled class shows of LANGUAGE.md: the library that is used, what is made where, how deep calls go. */
public final class CompiledTest {
    private static final int DEEPEST = 8;
    private static final String LIBRARY = "java/lang/Object\\.\"<init>\":\\(\\)V|java/lang/String\\.(length|charAt|isEmpty|equals|"
        + "indexOf|substring|toCharArray|\"<init>\"):.*|java/lang/(Integer|Long|Math)\\.(?!\\w+Exact:)\\w+:\\([IJ]*\\)[IJZ]|"
        + "java/lang/System\\.arraycopy:.*|java/util/Arrays\\.(copyOf|copyOfRange|fill):.*|\"\\[[IJBSCZ]\"\\.clone:.*";
    private static final Pattern CLASS = Pattern.compile(".*\\bclass (\\S+?)(?: extends (\\S+))? \\{");
    private static final Pattern METHOD = Pattern.compile("  (?:\\S.* )?([^ (]+)\\(.*\\);|  static \\{\\};");
    private static final Pattern STEP = Pattern.compile(" +\\d+: (\\w+)(?:.*// (?:Interface)?Method (\\S+))?.*");
    private static final Check CHECK = new Check("CompiledTest");

    /** A body of code: what it calls, as "Class.name:descriptor", and by which instruction. */
    private static final class Body {
        final List<String> instructions = new ArrayList<>();
        final List<String> called = new ArrayList<>();
    }

    private static final Map<String, String> ABOVE = new HashMap<>();
    private static final Map<String, Body> BODIES = new HashMap<>();

    public static void main(String[] args) {
        for (String name : namesOfClasses()) readClass(compiled(name));
        CHECK.holds("bodies were read", BODIES.size() > 100 && ABOVE.size() >= FloodCellar.class.getDeclaredClasses().length);
        for (String method : new TreeSet<>(BODIES.keySet())) {
            instructions(method, BODIES.get(method));
            library(method, BODIES.get(method));
        }
        depths();
        CHECK.end();
    }

    private static List<String> namesOfClasses() {
        List<String> names = new ArrayList<>(List.of("FloodCellar"));
        for (Class<?> c : FloodCellar.class.getDeclaredClasses()) names.add(c.getName());
        return names;
    }

    /** What javap tells of a class; it belongs to the JDK, as javac does. */
    private static String compiled(String name) {
        StringWriter text = new StringWriter();
        PrintWriter to = new PrintWriter(text);
        String path = System.getProperty("java.class.path").split(File.pathSeparator)[0];
        ToolProvider.findFirst("javap").orElseThrow().run(to, to, "-p", "-c", "-s", "-cp", path, name);
        return text.toString();
    }

    private static void readClass(String text) {
        String inClass = "", name = "";
        Body body = null;
        for (String line : text.split("\n")) {
            Matcher isClass = CLASS.matcher(line), isMethod = METHOD.matcher(line), isStep = STEP.matcher(line);
            if (inClass.isEmpty() && isClass.matches()) {
                inClass = isClass.group(1);
                ABOVE.put(inClass, isClass.group(2) == null ? "" : isClass.group(2));
            } else if (isMethod.matches()) {
                name = isMethod.group(1) == null ? "static" : isMethod.group(1);
                if (name.equals(inClass)) name = "\"<init>\"";
            } else if (line.startsWith("    descriptor: (")) {
                body = new Body();
                BODIES.put(inClass + "." + name + ":" + line.substring(16), body);
            } else if (line.contains("Exception table:")) {
                CHECK.holds("no catch in " + inClass + "." + name, false);
            } else if (body != null && isStep.matches()) {
                readStep(inClass, body, isStep.group(1), isStep.group(2));
            }
        }
    }

    private static void readStep(String inClass, Body body, String instruction, String called) {
        body.instructions.add(instruction);
        if (called == null) return;
        boolean here = called.indexOf('.') < 0 || called.indexOf('.') > called.indexOf(':');
        body.called.add((instruction.equals("invokespecial") ? "!" : "") + (here ? inClass + "." : "") + called);
    }

    // ---- rules 4, 6 and 12, and that no call makes an object

    private static void instructions(String method, Body body) {
        boolean constructs = method.contains("<init>") || method.contains(".static:");
        for (String i : body.instructions) {
            CHECK.holds("no " + i + " in " + method,
                !Set.of("athrow", "monitorenter", "invokedynamic", "checkcast", "frem", "drem").contains(i));
            boolean makes = Set.of("new", "newarray", "anewarray", "multianewarray").contains(i);
            CHECK.holds(method + " makes nothing", constructs || !makes);
        }
    }

    private static void library(String method, Body body) {
        for (String called : body.called) {
            String bare = called.replace("!", "");
            CHECK.holds(method + " calls what is listed: " + bare, bare.startsWith("FloodCellar") || bare.matches(LIBRARY));
        }
    }

    // ---- rule 11: how deep calls go that are no recursion

    private static void depths() {
        String deepest = "";
        for (String method : BODIES.keySet()) {
            if (!method.startsWith("FloodCellar.")) continue;
            String chain = deepestFrom(method, new ArrayList<>());
            if (chain.split(" > ").length > DEEPEST) CHECK.holds(DEEPEST + " deep at most: " + chain, false);
            if (chain.split(" > ").length > deepest.split(" > ").length) deepest = chain;
        }
        CHECK.holds("chains were found", deepest.split(" > ").length > 4);
    }

    private static String deepestFrom(String method, List<String> open) {
        open.add(method);
        String deepest = "";
        for (String called : BODIES.get(method).called) {
            for (String target : targetsOf(called)) {
                // One that stands open already is recursion.
                if (open.contains(target)) continue;
                String chain = deepestFrom(target, open);
                if (deepest.isEmpty() || chain.split(" > ").length > deepest.split(" > ").length) deepest = chain;
            }
        }
        open.remove(open.size() - 1);
        String own = method.substring(0, method.indexOf(':'));
        return deepest.isEmpty() ? own : own + " > " + deepest;
    }

    /** The bodies that a call may run: the one it names, or the one above that, and those of all below. */
    private static List<String> targetsOf(String called) {
        String bare = called.replace("!", "");
        String method = bare.substring(bare.indexOf('.'));
        String inClass = bare.substring(0, bare.indexOf('.'));
        List<String> targets = new ArrayList<>();
        String named = inClass;
        for (int i = 0; i < ABOVE.size() && ABOVE.containsKey(named) && !BODIES.containsKey(named + method); i++) named = ABOVE.get(named);
        if (BODIES.containsKey(named + method)) targets.add(named + method);
        if (called.startsWith("!")) return targets;
        for (String below : ABOVE.keySet()) {
            if (!below.equals(named) && isBelow(below, inClass) && BODIES.containsKey(below + method)) targets.add(below + method);
        }
        return targets;
    }

    private static boolean isBelow(String below, String above) {
        String c = below;
        for (int i = 0; i < ABOVE.size() && c != null; i++) {
            if (c.equals(above)) return true;
            c = ABOVE.get(c);
        }
        return false;
    }
}
