import java.io.IOException;
import java.lang.reflect.Field;
import java.lang.reflect.Member;
import java.lang.reflect.Method;
import java.lang.reflect.Modifier;
import java.nio.file.Files;
import java.nio.file.Path;
import java.util.ArrayList;
import java.util.Arrays;
import java.util.List;
import java.util.Set;
import java.util.TreeSet;
import java.util.regex.Matcher;
import java.util.regex.Pattern;

/** What LANGUAGE.md asks and a test can see: the members, the shape of the classes, words that the source must not have. */
public final class LanguageTest {
    private static final String[] NOT_IN_THE_SOURCE = {
        "throw", "throws", "try", "catch", "finally", "synchronized", "assert", "package", "import", "protected",
        "transient", "volatile", "native", "hashCode", "toString", "Object", "System.out", "Thread", "Random",
        "double", "float", "Exact"
    };

    private static final Check CHECK = new Check();

    public static void main(String[] args) throws IOException {
        membersOfTheFace();
        theClasses();
        theSource(Files.readString(Path.of("src/main/java/DoorsBook.java")));
        callsMakeNoObjects();
        CHECK.end();
    }

    // ---- rule 1

    private static void membersOfTheFace() {
        Set<String> names = new TreeSet<>();
        for (Method m : DoorsBook.class.getDeclaredMethods()) {
            if (Modifier.isPublic(m.getModifiers())) CHECK.holds(m + " bears its name alone", names.add(m.getName()));
        }
        for (Method m : DoorsBook.class.getDeclaredMethods()) {
            publicOrPrivate(m);
            if (Modifier.isPrivate(m.getModifiers())) CHECK.holds(m + " bears no public name", !names.contains(m.getName()));
        }
        for (Field f : DoorsBook.class.getDeclaredFields()) publicOrPrivate(f);
        for (Class<?> c : DoorsBook.class.getDeclaredClasses()) {
            CHECK.holds(c + " is private and static", Modifier.isPrivate(c.getModifiers()) && Modifier.isStatic(c.getModifiers()));
            for (Method m : c.getDeclaredMethods()) CHECK.holds(m + " bears no public name", !names.contains(m.getName()));
        }
    }

    private static void publicOrPrivate(Member m) {
        CHECK.holds(m + " is public or private", Modifier.isPublic(m.getModifiers()) || Modifier.isPrivate(m.getModifiers()));
    }

    // ---- rules 5 and 11

    private static void theClasses() {
        List<Class<?>> all = new ArrayList<>(Arrays.asList(DoorsBook.class.getDeclaredClasses()));
        all.add(DoorsBook.class);
        CHECK.holds("some twelve classes: " + all.size(), all.size() <= 12);
        for (Class<?> c : all) {
            int fields = 0;
            for (Field f : c.getDeclaredFields()) {
                if (Modifier.isStatic(f.getModifiers())) CHECK.holds(f + " is final", Modifier.isFinal(f.getModifiers()));
                else fields++;
            }
            CHECK.holds(c + " has some twenty fields: " + fields, fields <= 20);
            for (Method m : c.getDeclaredMethods()) CHECK.holds(m + " takes seven at most", m.getParameterCount() <= 7);
        }
    }

    // ---- rules 2, 4, 6, 10 and 11

    private static void theSource(String source) {
        for (int k = 0; k < source.length(); k++) {
            if (source.charAt(k) > 126) CHECK.holds("a sign at " + k, false);
        }
        String code = source.replaceAll("(?s)/\\*.*?\\*/", "").replaceAll("//[^\n]*", "").replaceAll("\"[^\"\n]*\"", "\"\"");
        for (String word : NOT_IN_THE_SOURCE) {
            CHECK.holds("no " + word, !Pattern.compile("\\b" + word + "\\b").matcher(code).find());
        }
        for (String sign : new String[] {"->", "::", "@", "\"\" +", "+ \"\""}) CHECK.holds("no " + sign, !code.contains(sign));
        Matcher calls = Pattern.compile("\\b(System|Math|Integer|Long|Arrays|String)\\.(\\w+)").matcher(code);
        while (calls.find()) {
            CHECK.holds(calls.group(), Set.of("arraycopy", "min", "max", "abs", "bitCount").contains(calls.group(2)));
        }
        methodsAreShort(source);
    }

    private static void methodsAreShort(String source) {
        String[] rows = source.split("\n");
        int methods = 0;
        for (int from = 0; from < rows.length; from++) {
            Matcher head = Pattern.compile("^( +)[\\w\\[\\] ]+\\([\\w\\[\\], ]*\\) \\{$").matcher(rows[from]);
            if (!head.matches()) continue;
            methods++;
            int to = from;
            while (to < rows.length && !rows[to].equals(head.group(1) + "}")) to++;
            CHECK.holds(rows[from].trim() + " has sixty rows at most: " + (to - from), to - from <= 60);
        }
        CHECK.holds("methods were seen: " + methods, methods > 100);
    }

    // ---- rule 12

    /** Of each call many, so that what a single one makes would show. */
    private static void callsMakeNoObjects() {
        com.sun.management.ThreadMXBean thread = (com.sun.management.ThreadMXBean) java.lang.management.ManagementFactory.getThreadMXBean();
        DoorsBook x = new DoorsBook();
        byte[] text = "book 50 0 1;book 60 0 9;line 0 listed 0 1 lee;line 1 counted 0 2 lea;order 55 0 1 2;house 0 2 1 2;x".getBytes();
        run(x, text);
        long before = thread.getThreadAllocatedBytes(Thread.currentThread().getId());
        for (int k = 0; k < 2000; k++) run(x, text);
        long made = thread.getThreadAllocatedBytes(Thread.currentThread().getId()) - before;
        CHECK.holds("calls make no objects: " + made + " bytes", made < 2000 * 16);
    }

    private static void run(DoorsBook x, byte[] text) {
        for (int end = text.length - 1; end <= text.length; end++) {
            for (int at = 0; at < end; at++) x.feed(text[at], 1);
            if (end == text.length || x.count(2) == 0) x.read();
            else x.feed(0, 1);
        }
        x.sheet(0, 0, 60);
        x.set(0, 1, 1);
        x.copy(0, 0, 0, 3, 3);
        x.walks(0, 0, 2);
        x.drop(0);
        for (int what = 0; what < 9; what++) {
            x.line(0, what);
            x.alike(0, 1, what);
            x.joined(what);
            x.stay(1, what);
            x.lost(0, 50, 60, what);
            x.found(0, 50, 60, 0, what);
            x.missing(0, 1, what);
            x.as(0, what);
            x.ask(1, what);
            x.trace(what);
            x.count(what);
        }
        x.today(0, 1, 1);
        x.quarrels();
        x.person(0);
        x.sure(0, 1);
        x.shown(0, 1);
        x.leaf(0, 1);
        x.next();
        x.kind(0);
        x.ear(0);
        x.fault();
        x.status();
    }
}
