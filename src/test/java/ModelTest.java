import java.util.Random;

/** Runs of calls by chance (the same each time), each answered by DoorsBook and by Model. */
public final class ModelTest {
    private static final String[] NAMES = {
        "lee", "leigh", "lea", "li", "smith", "smyth", "smithe", "schmidt", "jones", "johns", "a", "b", "ab",
        "abcdefgh", "abcdefgi", "age", "line", "tt", "tdt", "tat", "pfister", "zzz", "rr", "sms", "bobsmnrr"
    };
    private static final String[] SORTS = {"listed", "rated", "counted", "trade", "stale"};
    private static final String[] JUNK = {
        " ", "\n", ";", "book", "line", "order", "house", "age", "12345", "0", "9999", "A", "-1", "listed", "abcdefghi", "\u00e9", "5x", "\t"
    };
    private static final int[] WILD = {
        -1, 0, 1, 2, 3, 4, 5, 6, 7, 8, 9, 10, 12, 20, 21, 59, 60, 61, 99, 100, 127, 128, 255, 256, 9998, 9999, 10000,
        32767, 32768, 65536, Integer.MAX_VALUE, Integer.MIN_VALUE, Integer.MAX_VALUE - 1, -1000000
    };

    private final Check check = new Check();
    private final Random chance;
    private final int run;
    private final DoorsBook x = new DoorsBook();
    private final Model m = new Model();
    private int calls = 0;

    private ModelTest(int run) {
        this.run = run;
        chance = new Random(run);
    }

    public static void main(String[] args) {
        int runs = args.length > 0 ? Integer.parseInt(args[0]) : 1000;
        int wrong = 0;
        long calls = 0;
        for (int run = 0; run < runs && wrong < 10; run++) {
            ModelTest t = new ModelTest(run);
            t.go();
            wrong += t.check.wrongSoFar();
            calls += t.calls;
        }
        System.out.println(calls + " calls, " + wrong + " answers not as the model's");
        if (wrong != 0) System.exit(1);
    }

    private void go() {
        int style = chance.nextInt(4);
        while (calls < 420 && check.wrongSoFar() == 0) {
            if (chance.nextInt(12) == 0) tell(style);
            else one();
        }
    }

    private void due(String call, long got, long want) {
        calls++;
        check.due("run " + run + ", call " + calls + ", " + call, got, want);
    }

    private int wild() {
        return WILD[chance.nextInt(WILD.length)];
    }

    /** Mostly 0 to below n, else anything. */
    private int near(int n) {
        return chance.nextInt(25) == 0 ? wild() : chance.nextInt(n);
    }

    private int lineNumber() {
        int n = m.count(2);
        return n == 0 ? near(2) : near(n);
    }

    private int year() {
        return chance.nextInt(10) == 0 ? wild() : 1850 + chance.nextInt(6);
    }

    // ---- texts

    private void tell(int style) {
        StringBuilder text = new StringBuilder();
        if (m.count(1) == 0) text.append(book());
        int parts = 1 + chance.nextInt(style == 3 ? 12 : 4);
        for (int k = 0; k < parts; k++) text.append(part(style));
        if (chance.nextInt(8) == 0) spoil(text);
        if (chance.nextInt(4) == 0) text.append(chance.nextBoolean() ? " \n " : "\n");
        for (int at = 0; at < text.length(); at += 8) {
            String some = text.substring(at, Math.min(at + 8, text.length()));
            long w = Check.asLong(some);
            due("feed " + some, x.feed(w, some.length()), m.feed(w, some.length()));
        }
        due("read of " + text, x.read(), m.read());
        due("fault", x.fault(), m.fault());
    }

    private String book() {
        int year = chance.nextInt(15) == 0 ? chance.nextInt(11) : 1850 + chance.nextInt(6);
        return "book " + year + " " + chance.nextInt(3) + " " + (1 + chance.nextInt(7)) + ";";
    }

    private String part(int style) {
        int pick = chance.nextInt(10);
        if (pick == 0) return book();
        if (pick < 3) return "order " + (1848 + chance.nextInt(10)) + " " + street(style) + " " + number() + " " + number() + ";";
        if (pick == 3) {
            int from = 1845 + chance.nextInt(8);
            return "house " + street(style) + " " + number() + " " + from + " " + (from + chance.nextInt(6)) + ";";
        }
        int book = chance.nextInt(Math.max(1, m.count(1)));
        String name = NAMES[chance.nextInt(style == 0 ? NAMES.length : style == 1 ? 4 : 11)];
        String age = chance.nextInt(3) == 0 ? " age " + (30 + chance.nextInt(8)) : "";
        return "line " + book + " " + SORTS[chance.nextInt(5)] + " " + street(style) + " " + number() + " " + name + age + ";";
    }

    private int street(int style) {
        return style >= 2 || chance.nextInt(4) != 0 ? 0 : chance.nextInt(4);
    }

    private int number() {
        return chance.nextInt(30) == 0 ? chance.nextInt(102) : 1 + chance.nextInt(4);
    }

    private void spoil(StringBuilder text) {
        int at = chance.nextInt(text.length() + 1);
        switch (chance.nextInt(3)) {
            case 0: text.insert(at, JUNK[chance.nextInt(JUNK.length)]); break;
            case 1: text.delete(at, Math.min(text.length(), at + 1 + chance.nextInt(4))); break;
            default: text.setLength(at);
        }
    }

    // ---- one call

    private void one() {
        switch (chance.nextInt(27)) {
            case 0: sheet(); break;
            case 1: set(); break;
            case 2: copy(); break;
            case 3: if (chance.nextInt(3) == 0) drop(); break;
            case 4: feed(); break;
            case 5: line(); break;
            case 6: ear(); break;
            case 7: case 8: alike(); break;
            case 9: today(); break;
            case 10: due("quarrels()", x.quarrels(), m.quarrels()); break;
            case 11: walks(); break;
            case 12: joined(); break;
            case 13: person(); break;
            case 14: sure(); break;
            case 15: case 16: stay(); break;
            case 17: lost(); break;
            case 18: case 19: found(); break;
            case 20: missing(); break;
            case 21: shown(); break;
            case 22: leaf(); break;
            case 23: due("next()", x.next(), m.next()); break;
            case 24: as(); break;
            case 25: ask(); break;
            default: count();
        }
        if (chance.nextInt(4) == 0) due("status()", x.status(), m.status());
    }

    private void sheet() {
        int s = near(3), lane = near(3), n = chance.nextInt(8) == 0 ? wild() : 3 * chance.nextInt(8);
        due("sheet(" + s + ", " + lane + ", " + n + ")", x.sheet(s, lane, n), m.sheet(s, lane, n));
    }

    private void set() {
        int s = near(3), i = near(20), v = chance.nextInt(2) == 0 ? wild() : chance.nextInt();
        due("set(" + s + ", " + i + ", " + v + ")", x.set(s, i, v), m.set(s, i, v));
    }

    private void copy() {
        int a = near(3), i = near(8), b = chance.nextBoolean() ? a : near(3), j = near(8), n = near(10);
        due("copy(" + a + ", " + i + ", " + b + ", " + j + ", " + n + ")", x.copy(a, i, b, j, n), m.copy(a, i, b, j, n));
    }

    private void drop() {
        int s = near(3);
        due("drop(" + s + ")", x.drop(s), m.drop(s));
    }

    private void feed() {
        if (chance.nextInt(6) != 0) return;
        int n = near(10);
        long w = chance.nextLong();
        due("feed(" + w + ", " + n + ")", x.feed(w, n), m.feed(w, n));
        if (chance.nextBoolean()) due("read()", x.read(), m.read());
    }

    private void line() {
        int l = lineNumber(), what = near(9);
        due("line(" + l + ", " + what + ")", x.line(l, what), m.line(l, what));
    }

    private void ear() {
        int l = lineNumber();
        due("ear(" + l + ")", x.ear(l), m.ear(l));
    }

    private void alike() {
        int a = lineNumber(), b = lineNumber(), what = near(3);
        due("alike(" + a + ", " + b + ", " + what + ")", x.alike(a, b, what), m.alike(a, b, what));
    }

    private void today() {
        int street = near(2), number = chance.nextInt(10) == 0 ? wild() : number(), year = year();
        due("today(" + street + ", " + number + ", " + year + ")", x.today(street, number, year), m.today(street, number, year));
    }

    /** Puts walks into a SHEET of ints first, most of the time. */
    private void walks() {
        int s = near(3), n = chance.nextInt(10) == 0 ? wild() : 1 + chance.nextInt(5), from = 3 * chance.nextInt(2);
        if (chance.nextInt(3) != 0 && s >= 0 && s < 8 && n >= 1 && n <= 6) {
            due("sheet", x.sheet(s, 2, 21), m.sheet(s, 2, 21));
            for (int i = 0; i < 3 * n; i += 3) {
                int[] walk = {street(0), number(), year()};
                for (int k = 0; k < 3; k++) due("set", x.set(s, from + i + k, walk[k]), m.set(s, from + i + k, walk[k]));
            }
        }
        int i = chance.nextInt(10) == 0 ? wild() : from;
        due("walks(" + s + ", " + i + ", " + n + ")", x.walks(s, i, n), m.walks(s, i, n));
    }

    private void joined() {
        int what = near(3);
        due("joined(" + what + ")", x.joined(what), m.joined(what));
    }

    private void person() {
        int l = lineNumber();
        due("person(" + l + ")", x.person(l), m.person(l));
    }

    private void sure() {
        int a = lineNumber(), b = lineNumber();
        due("sure(" + a + ", " + b + ")", x.sure(a, b), m.sure(a, b));
    }

    private void stay() {
        int l = lineNumber(), what = near(4);
        due("stay(" + l + ", " + what + ")", x.stay(l, what), m.stay(l, what));
    }

    private void lost() {
        int street = near(2), from = year(), to = year(), what = near(3);
        due("lost(" + street + ", " + from + ", " + to + ", " + what + ")", x.lost(street, from, to, what), m.lost(street, from, to, what));
    }

    private void found() {
        int street = near(2), from = year(), to = year(), i = near(4), what = near(2);
        due("found(" + street + ", " + from + ", " + to + ", " + i + ", " + what + ")",
            x.found(street, from, to, i, what), m.found(street, from, to, i, what));
    }

    private void missing() {
        int a = near(3), b = near(3), what = near(3);
        due("missing(" + a + ", " + b + ", " + what + ")", x.missing(a, b, what), m.missing(a, b, what));
    }

    private void shown() {
        int l = lineNumber(), year = chance.nextInt(10) == 0 ? wild() : 1915 + chance.nextInt(45);
        due("shown(" + l + ", " + year + ")", x.shown(l, year), m.shown(l, year));
    }

    private void leaf() {
        int book = near(4), is = near(2);
        due("leaf(" + book + ", " + is + ")", x.leaf(book, is), m.leaf(book, is));
    }

    private void as() {
        int l = lineNumber(), kind = near(6);
        due("kind(" + l + ")", x.kind(l), m.kind(l));
        due("as(" + l + ", " + kind + ")", x.as(l, kind), m.as(l, kind));
    }

    private void ask() {
        int l = lineNumber(), what = near(2);
        due("ask(" + l + ", " + what + ")", x.ask(l, what), m.ask(l, what));
        for (int i = -1; i < 8; i++) due("trace(" + i + ")", x.trace(i), m.trace(i));
    }

    private void count() {
        int what = near(8);
        due("count(" + what + ")", x.count(what), m.count(what));
    }
}
