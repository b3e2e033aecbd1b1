import java.io.IOException;
import java.lang.reflect.Constructor;
import java.lang.reflect.Field;
import java.lang.reflect.Method;
import java.lang.reflect.Modifier;
import java.nio.file.Files;
import java.nio.file.Path;
import java.util.ArrayList;
import java.util.List;
import java.util.Set;
import java.util.TreeSet;
import java.util.regex.Matcher;
import java.util.regex.Pattern;

/** The public face: that of the class is the one of the document, as it stands there, and no more. */
public final class FaceTest {
    private static final int CALLS = 29;
    private static final Pattern PUBLIC_CALL = Pattern.compile("public (int|long) (\\w+)\\(([^)]*)\\)");

    private static final Check CHECK = new Check();

    public static void main(String[] args) throws IOException {
        Doc doc = new Doc();
        theMethods(doc);
        theConstants(doc);
        oneConstructor(doc);
        String[] source = Files.readString(Path.of("src/main/java/DoorsBook.java")).split("\n");
        promisesBeginByTheFace(doc, List.of(source));
        interfaceSays(doc, source);
        CHECK.end();
    }

    private static void theMethods(Doc doc) {
        Set<String> due = new TreeSet<>();
        for (String row : doc.face()) {
            Matcher call = PUBLIC_CALL.matcher(row);
            if (call.find()) due.add(call.group(1) + " " + call.group(2) + "(" + call.group(3).replaceAll("(int|long) \\w+,? ?", "$1,").replaceAll(",$", "") + ")");
        }
        CHECK.due("calls of the document's face", due.size(), CALLS);
        Set<String> has = new TreeSet<>();
        for (Method m : DoorsBook.class.getDeclaredMethods()) {
            if (!Modifier.isPublic(m.getModifiers())) continue;
            has.add(asText(m));
            CHECK.holds(m + " is no static one, and throws nothing", !Modifier.isStatic(m.getModifiers()) && m.getExceptionTypes().length == 0);
        }
        CHECK.holds("the methods of the face are " + due + ", but there are " + has, has.equals(due));
    }

    private static String asText(Method m) {
        List<String> types = new ArrayList<>();
        for (Class<?> t : m.getParameterTypes()) types.add(t.getName());
        return m.getReturnType() + " " + m.getName() + "(" + String.join(",", types) + ")";
    }

    /** By reflection: a test that names a constant has its value compiled in. */
    private static void theConstants(Doc doc) {
        Set<String> due = new TreeSet<>();
        for (String row : doc.face()) {
            Matcher constant = Pattern.compile("([A-Z]+) = (-\\d+)").matcher(row);
            while (constant.find()) due.add(constant.group());
        }
        CHECK.due("constants of the document's face", due.size(), 4);
        Set<String> has = new TreeSet<>();
        for (Field f : DoorsBook.class.getDeclaredFields()) {
            if (!Modifier.isPublic(f.getModifiers())) continue;
            boolean isConstant = Modifier.isStatic(f.getModifiers()) && Modifier.isFinal(f.getModifiers()) && f.getType() == int.class;
            CHECK.holds(f + " is a constant", isConstant);
            if (isConstant) has.add(f.getName() + " = " + valueOf(f));
        }
        CHECK.holds("the constants are " + due + ", but there are " + has, has.equals(due));
    }

    private static int valueOf(Field f) {
        try {
            return f.getInt(null);
        } catch (IllegalAccessException e) {
            throw new IllegalStateException(e);
        }
    }

    private static void oneConstructor(Doc doc) {
        CHECK.holds("the document's face has the constructor", doc.face().contains("public DoorsBook();"));
        Constructor<?>[] made = DoorsBook.class.getDeclaredConstructors();
        CHECK.holds("one public constructor", made.length == 1 && Modifier.isPublic(made[0].getModifiers()) && made[0].getParameterCount() == 0);
        CHECK.holds("public and final", Modifier.isPublic(DoorsBook.class.getModifiers()) && Modifier.isFinal(DoorsBook.class.getModifiers()));
        CHECK.holds("of no class but Object, of no package", DoorsBook.class.getSuperclass() == Object.class
            && DoorsBook.class.getInterfaces().length == 0 && DoorsBook.class.getPackageName().isEmpty());
    }

    /** Promise k is of the face's row k, and so is a row of the source, with the document's names. */
    private static void promisesBeginByTheFace(Doc doc, List<String> source) {
        List<String> calls = new ArrayList<>();
        for (String row : doc.face()) if (row.endsWith(");")) calls.add(row);
        CHECK.due("the constructor and the calls", calls.size(), Doc.PROMISES);
        for (int promise = 1; promise <= Doc.PROMISES; promise++) {
            String row = "public " + doc.signatureOf(promise);
            CHECK.due("promise " + promise + " is of the face: " + row, calls.indexOf(row + ";"), promise - 1);
            CHECK.holds("the source has: " + row, source.contains("    " + row + " {"));
        }
    }

    /** The source has the calls in the document's order, and ahead of each group of them what "the interface says". */
    private static void interfaceSays(Doc doc, String[] source) {
        List<String> due = new ArrayList<>();
        for (String row : doc.interfaceRows()) {
            String says = row.substring(row.indexOf("says: ") + 6, row.length() - 1);
            Matcher call = Pattern.compile("`(\\w+)`").matcher(row);
            while (call.find()) due.add(says + ": " + call.group(1));
        }
        CHECK.due("calls that the interface says something ahead of", due.size(), CALLS);
        List<String> has = new ArrayList<>();
        String says = "";
        for (String row : source) {
            if (row.startsWith("    // ----")) says = row.substring(7);
            Matcher call = PUBLIC_CALL.matcher(row);
            if (row.startsWith("    public ") && call.find()) has.add(says + ": " + call.group(2));
        }
        CHECK.holds("ahead of the calls: " + due + ", but there is " + has, has.equals(due));
    }
}
