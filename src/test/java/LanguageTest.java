import java.lang.reflect.Constructor;
import java.lang.reflect.Field;
import java.lang.reflect.Method;
import java.lang.reflect.Modifier;
import java.nio.file.Files;
import java.nio.file.Path;
import java.util.ArrayList;
import java.util.HashSet;
import java.util.List;
import java.util.Set;
import java.util.TreeSet;
import java.util.regex.Matcher;
import java.util.regex.Pattern;

/** The face of the document, and those rules of LANGUAGE.md that the class or its text shows. */
public final class LanguageTest {
    private static final String FACE = "act(int,int,int) again() alterRow(int,int,int) anew() bars(int,int) barrel(int,int,int,int) "
        + "barrelOf(int,int) best(int) chalkFor(int) change(int,int,int) chart(int,int) dry(int) ends(int) feed(long,int) "
        + "forget() game(int) goAll(int,int,int) item(int,int,int) ith(int,int) judge() keep() least(int) left(int,int) liar() "
        + "lone(int) lot() many(int) on(int) play(int) prove(int) rafts(int) remake(int,int) report(int,int,int,int) row(int,int) "
        + "rules() seed(int) sheet(int,int,int) shelf(int,int,int) state(int) taken(int,int) tide() tier(int,int,int) "
        + "tierFor(int) tierOf(int,int) times(int,int) trace(int) water(int,int) ways(int) when(int) wouldBe(int,int,int) "
        + "write(int,int,int)";
    private static final String BANNED = "throw|throws|try|catch|finally|synchronized|assert|import|package|native|volatile|"
        + "transient|strictfp|hashCode|toString|var|yield|Object|Class|Thread|System\\.(?!arraycopy\\b)\\w+|\\w+Exact|->|::|\\bdouble|float";
    private static final Check CHECK = new Check("LanguageTest");

    public static void main(String[] args) throws Exception {
        String source = Files.readString(Path.of(System.getProperty("source", "src/main/java/FloodCellar.java")));
        face();
        members(FloodCellar.class);
        classes();
        text(bare(source));
        methodLengths(source);
        CHECK.end();
    }

    private static void face() throws Exception {
        Class<?> c = FloodCellar.class;
        CHECK.holds("public and final", Modifier.isPublic(c.getModifiers()) && Modifier.isFinal(c.getModifiers()));
        Set<String> found = new TreeSet<>();
        for (Method m : c.getDeclaredMethods()) {
            if (Modifier.isPrivate(m.getModifiers())) continue;
            found.add(signature(m));
            CHECK.holds(m.getName() + " is public, not static, and answers int",
                m.getModifiers() == Modifier.PUBLIC && m.getReturnType() == int.class);
        }
        CHECK.holds("the methods are those of the document: " + found, found.equals(new TreeSet<>(List.of(FACE.split(" ")))));
        Constructor<?>[] made = c.getDeclaredConstructors();
        CHECK.holds("one public constructor", made.length == 1 && Modifier.isPublic(made[0].getModifiers())
            && made[0].getParameterCount() == 0);
        Set<String> constants = new HashSet<>();
        for (Field f : c.getDeclaredFields()) {
            if (Modifier.isPrivate(f.getModifiers())) continue;
            constants.add(f.getName() + "=" + f.getInt(null));
        }
        CHECK.holds("the constants: " + constants, constants.equals(Set.of("BAD=-1", "FULL=-2", "NONE=-3", "STATE=-4")));
    }

    private static String signature(Method m) {
        List<String> types = new ArrayList<>();
        for (Class<?> p : m.getParameterTypes()) types.add(p.getName());
        return m.getName() + "(" + String.join(",", types) + ")";
    }

    private static void members(Class<?> c) {
        Set<String> face = new HashSet<>();
        for (String s : FACE.split(" ")) face.add(s.substring(0, s.indexOf('(')));
        int fields = 0;
        for (Field f : c.getDeclaredFields()) {
            boolean isStatic = Modifier.isStatic(f.getModifiers());
            CHECK.holds(c + " static field is final: " + f.getName(), !isStatic || Modifier.isFinal(f.getModifiers()));
            if (!isStatic) fields++;
        }
        CHECK.holds(c + " has some twenty fields at most: " + fields, fields <= 20);
        for (Method m : c.getDeclaredMethods()) {
            CHECK.holds(m + " takes seven at most", m.getParameterCount() <= 7);
            if (!Modifier.isPublic(m.getModifiers())) {
                CHECK.holds(m + " bears no public method's name", !face.contains(m.getName()));
            }
        }
    }

    private static void classes() {
        Class<?>[] inside = FloodCellar.class.getDeclaredClasses();
        CHECK.holds("twelve classes at most", inside.length + 1 <= 12);
        for (Class<?> c : inside) {
            CHECK.holds(c + " is static", Modifier.isStatic(c.getModifiers()));
            CHECK.holds(c + " is not public or protected", (c.getModifiers() & (Modifier.PUBLIC | Modifier.PROTECTED)) == 0);
            members(c);
        }
    }

    /** The text without what is said in comments and constants of text. */
    private static String bare(String source) {
        return source.replaceAll("(?s)/\\*.*?\\*/", " ").replaceAll("//[^\\n]*", " ").replaceAll("\"[^\"\\n]*\"", "\"\"");
    }

    private static void text(String bare) {
        Matcher m = Pattern.compile("(?<!\\w)(?:" + BANNED + ")(?!\\w)").matcher(bare);
        while (m.find()) CHECK.holds("no " + m.group(), false);
        CHECK.holds("some text was read", bare.contains("class FloodCellar"));
        CHECK.holds("no static block", !bare.contains("static {"));
        CHECK.holds("no equals", !bare.contains(".equals("));
    }

    private static void methodLengths(String source) {
        String[] lines = source.split("\n");
        int begun = -1;
        for (int i = 0; i < lines.length; i++) {
            if (lines[i].matches(" {4}( {4})?[^ /@*].*\\) \\{")) begun = i;
            if (begun >= 0 && lines[i].matches(" {4}( {4})?\\}") && i - begun > 60) {
                CHECK.holds("sixty lines at most: " + lines[begun].trim(), false);
            }
        }
    }
}
