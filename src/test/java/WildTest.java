import java.lang.reflect.InvocationTargetException;
import java.lang.reflect.Method;
import java.lang.reflect.Modifier;
import java.util.Arrays;
import java.util.Comparator;
import java.util.Random;

/** No call ever throws, whatever its arguments and whatever came ahead of it: behind the 512th call, too. */
public final class WildTest {
    private static final int[] WILD = {
        -1, 0, 1, 2, 3, 4, 5, 6, 7, 8, 9, 10, 11, 12, 13, 16, 19, 20, 21, 31, 32, 57, 58, 59, 60, 61, 63, 64, 99, 100, 127, 128, 255, 256,
        9998, 9999, 10000, 32767, 32768, 65535, 65536, 715827883, 1431655766, -1000000, -32769, -128, -129,
        Integer.MAX_VALUE, Integer.MAX_VALUE - 1, Integer.MIN_VALUE, Integer.MIN_VALUE + 1
    };
    private static final String[] TEXTS = {
        "book 1 0 1;", "book 9998 9 99;", "line 0 listed 0 1 a;", "line 0 rated 3 99 abcdefgh age 120;", "line 0 counted 0 2 lee age 0;",
        "line 0 trade 1 1 lea;", "line 0 stale 0 1 lee;", "order 1 0 1 2;", "order 9998 3 98 99;", "order 50 0 2 1;", "house 0 1 1 9999;",
        "house 3 99 9998 9999;", "line 1 trade 0 1", "x", "#", "book", "12345", " \n", ";"
    };

    private final Random chance;
    private final Method[] face;

    private WildTest(int run) {
        chance = new Random(run);
        face = Arrays.stream(DoorsBook.class.getDeclaredMethods()).filter(m -> Modifier.isPublic(m.getModifiers()))
            .sorted(Comparator.comparing(Method::getName)).toArray(Method[]::new);
    }

    public static void main(String[] args) throws IllegalAccessException {
        Check check = new Check();
        for (int run = 0; run < 200; run++) {
            String thrown = new WildTest(run).go();
            check.holds("run " + run + ": " + thrown, thrown.isEmpty());
        }
        check.end();
    }

    private String go() throws IllegalAccessException {
        DoorsBook x = new DoorsBook();
        for (int call = 0; call < 1500; call++) {
            Method m = face[chance.nextInt(face.length)];
            Object[] args = argumentsOf(m);
            try {
                if (chance.nextInt(15) == 0) Check.tell(x, text());
                m.invoke(x, args);
            } catch (InvocationTargetException e) {
                return m.getName() + Arrays.toString(args) + " threw " + e.getCause();
            } catch (RuntimeException e) {
                return "a text threw " + e;
            }
        }
        return "";
    }

    private Object[] argumentsOf(Method m) {
        Object[] args = new Object[m.getParameterCount()];
        for (int k = 0; k < args.length; k++) {
            int wild = chance.nextInt(3) == 0 ? WILD[chance.nextInt(WILD.length)] : chance.nextInt(5);
            if (m.getParameterTypes()[k] == long.class) args[k] = chance.nextLong();
            else args[k] = wild;
        }
        return args;
    }

    private String text() {
        StringBuilder text = new StringBuilder();
        for (int k = chance.nextInt(4); k >= 0; k--) text.append(TEXTS[chance.nextInt(chance.nextInt(4) == 0 ? TEXTS.length : 12)]);
        return text.toString();
    }
}
