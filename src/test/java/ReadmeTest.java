import java.lang.reflect.Method;
import java.lang.reflect.Modifier;
import java.nio.file.Files;
import java.nio.file.Path;
import java.util.HashMap;
import java.util.Map;
import java.util.regex.Matcher;
import java.util.regex.Pattern;

/** The calls that README.md shows answer what it says, and it names every call. */
public final class ReadmeTest {
    private static final Pattern ROW = Pattern.compile("cellar\\.(\\w+)\\(([^)]*)\\); *// (-?\\d+).*");
    private static final Check CHECK = new Check("ReadmeTest");

    public static void main(String[] args) throws Exception {
        String page = Files.readString(Path.of(System.getProperty("readme", "README.md")));
        Map<String, Method> calls = new HashMap<>();
        for (Method m : FloodCellar.class.getDeclaredMethods()) {
            if (Modifier.isPublic(m.getModifiers())) calls.put(m.getName(), m);
        }
        int rows = 0;
        FloodCellar cellar = new FloodCellar();
        for (String line : page.split("\n")) {
            Matcher row = ROW.matcher(line);
            if (!row.matches()) continue;
            rows++;
            CHECK.due(line, call(calls.get(row.group(1)), cellar, row.group(2)), Integer.parseInt(row.group(3)));
        }
        CHECK.holds("rows were found", rows > 10);
        for (String name : calls.keySet()) CHECK.holds("it names " + name, page.contains("`" + name + "`"));
        CHECK.end();
    }

    private static int call(Method m, FloodCellar cellar, String arguments) throws Exception {
        String[] words = arguments.isEmpty() ? new String[0] : arguments.split(", ");
        Object[] values = new Object[words.length];
        for (int i = 0; i < words.length; i++) {
            long value = words[i].startsWith("'") ? words[i].charAt(1) : Long.decode(words[i].replace("L", ""));
            if (m.getParameterTypes()[i] == long.class) values[i] = value;
            else values[i] = (int) value;
        }
        return (int) m.invoke(cellar, values);
    }
}
