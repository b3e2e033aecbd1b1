import java.io.File;
import java.io.IOException;
import java.lang.reflect.InvocationTargetException;
import java.lang.reflect.Method;
import java.lang.reflect.Modifier;
import java.nio.file.Files;
import java.nio.file.Path;
import java.util.Set;
import java.util.TreeSet;
import java.util.regex.Matcher;
import java.util.regex.Pattern;

/** README.md: each call that it shows answers what stands behind it there; it shows each call, and names each test. */
public final class ReadmeTest {
    private static final Pattern TOLD = Pattern.compile("^tell\\(x, \"([^\"]*)\"\\); +// (-?\\d+)\\b.*");
    private static final Pattern CALLED = Pattern.compile("^x\\.(\\w+)\\(([^)]*)\\); +// (-?\\d+)\\b.*");

    private static final Check CHECK = new Check();
    private static final Set<String> SHOWN = new TreeSet<>(Set.of("feed", "read"));

    public static void main(String[] args) throws Exception {
        String page = Files.readString(Path.of("README.md"));
        examples(page);
        for (Method m : DoorsBook.class.getDeclaredMethods()) {
            if (Modifier.isPublic(m.getModifiers())) CHECK.holds("README.md shows " + m.getName(), SHOWN.contains(m.getName()));
        }
        howToRunTests(page);
        CHECK.end();
    }

    private static void examples(String page) throws Exception {
        DoorsBook x = null;
        int made = 0;
        for (String row : page.split("\n")) {
            if (row.equals("DoorsBook x = new DoorsBook();")) {
                x = new DoorsBook();
                made++;
            }
            Matcher told = TOLD.matcher(row);
            Matcher called = CALLED.matcher(row);
            if (told.matches() && x != null) CHECK.due(row, tell(x, told.group(1)), Long.parseLong(told.group(2)));
            else if (called.matches() && x != null) CHECK.due(row, call(x, called.group(1), called.group(2)), Long.parseLong(called.group(3)));
            else CHECK.holds("an example that can be run: " + row, !row.startsWith("x.") && !row.startsWith("tell("));
        }
        CHECK.holds("an object is made: " + made, made > 0);
    }

    /** As README.md writes it. */
    private static int tell(DoorsBook x, String text) {
        for (char c : text.toCharArray()) x.feed(c, 1);
        return x.read();
    }

    private static long call(DoorsBook x, String name, String told) throws IllegalAccessException, InvocationTargetException {
        String[] words = told.isBlank() ? new String[0] : told.split(",");
        for (Method m : DoorsBook.class.getDeclaredMethods()) {
            Class<?>[] types = m.getParameterTypes();
            if (!Modifier.isPublic(m.getModifiers()) || !m.getName().equals(name) || types.length != words.length) continue;
            Object[] values = new Object[words.length];
            for (int k = 0; k < words.length; k++) {
                long value = Long.decode(words[k].trim());
                if (types[k] == long.class) values[k] = value;
                else values[k] = (int) value;
            }
            SHOWN.add(name);
            return ((Number) m.invoke(x, values)).longValue();
        }
        return Long.MIN_VALUE;
    }

    private static void howToRunTests(String page) throws IOException {
        CHECK.holds("README.md says how to use the class", page.contains("\n## How to use it\n"));
        CHECK.holds("README.md says how to run its tests", page.contains("\n## How to run its tests\n") && page.contains("\n    bash .ci/run\n"));
        CHECK.holds(".ci/run can be run", new File(".ci/run").canExecute());
        for (String file : new File("src/test/java").list()) {
            String name = file.replace(".java", "");
            if (name.endsWith("Test") || name.endsWith("Edges")) CHECK.holds("README.md names " + name, page.contains("`" + name + "`"));
        }
        Matcher named = Pattern.compile("`(\\w+(?:Test|Edges))`").matcher(page);
        while (named.find()) CHECK.holds("there is " + named.group(), new File("src/test/java/" + named.group(1) + ".java").exists());
        for (Class<?> c : DoorsBook.class.getDeclaredClasses()) {
            CHECK.holds("README.md says what " + c.getSimpleName() + " holds", page.contains("`" + c.getSimpleName() + "`"));
        }
    }
}
