import java.util.ArrayList;
import java.util.Comparator;
import java.util.HashMap;
import java.util.List;
import java.util.Map;
import java.util.regex.Matcher;
import java.util.regex.Pattern;

/** The document, written a second time and as slowly as it likes, with the Java library: each call is worked out anew. */
final class Model {
    static final int NONE = -1000000, BAD = -1000001, FULL = -1000003;

    record Book(int year, int lag, int pages) {
        int gathered() { return year - lag; }
    }

    record Line(int book, int sort, int street, int number, String name, int age) { }

    record Order(int year, int street, int old, int renewed) { }

    record House(int street, int number, int from, int to) { }

    record Pair(int before, int after) { }

    static final class Fault extends RuntimeException {
        final int number;
        final int place;

        Fault(int number, int place) {
            this.number = number;
            this.place = place;
        }
    }

    private static final List<String> SORTS = List.of("listed", "rated", "counted", "trade", "stale");

    private final long[][] sheets = new long[8][];
    private final int[] lanes = new int[8];
    private String tape = "";
    private List<Book> books = new ArrayList<>();
    private List<Line> lines = new ArrayList<>();
    private List<Order> orders = new ArrayList<>();
    private List<House> houses = new ArrayList<>();
    private final boolean[] read = new boolean[10];
    private List<Integer> trace = new ArrayList<>();
    private int latestFault;
    private int status;

    // ---- sheets

    private int found(int number) {
        status = number;
        return -1000010 - number;
    }

    private int well(int answer) {
        status = 0;
        return answer;
    }

    private static boolean in(int v, int least, int most) {
        return v >= least && v <= most;
    }

    int sheet(int sheet, int lane, int n) {
        if (!in(sheet, 0, 7) || !in(lane, 0, 2) || n > 60) return BAD;
        if (n < 0) return found(4);
        sheets[sheet] = new long[n];
        lanes[sheet] = lane;
        return well(n);
    }

    int set(int sheet, int i, int v) {
        if (!in(sheet, 0, 7)) return BAD;
        if (sheets[sheet] == null) return found(1);
        if (!in(i, 0, sheets[sheet].length - 1)) return found(2);
        int bits = lanes[sheet] == 0 ? 8 : lanes[sheet] == 1 ? 16 : 32;
        sheets[sheet][i] = v << (32 - bits) >> (32 - bits);
        return well((int) sheets[sheet][i]);
    }

    int copy(int a, int i, int b, int j, int n) {
        if (!in(a, 0, 7) || !in(b, 0, 7)) return BAD;
        if (sheets[a] == null || sheets[b] == null) return found(1);
        if (lanes[a] != lanes[b]) return found(5);
        if (i < 0 || j < 0 || n < 0) return found(2);
        if ((long) i + n > sheets[a].length || (long) j + n > sheets[b].length) return found(2);
        long[] ahead = sheets[a].clone();
        for (int k = 0; k < n; k++) sheets[b][j + k] = ahead[i + k];
        return well(n);
    }

    int drop(int sheet) {
        if (!in(sheet, 0, 7)) return BAD;
        if (sheets[sheet] == null) return found(1);
        int had = sheets[sheet].length;
        sheets[sheet] = null;
        return well(had);
    }

    // ---- texts

    int feed(long w, int n) {
        if (!in(n, 1, 8)) return BAD;
        if (tape.length() + n > 600) return FULL;
        StringBuilder more = new StringBuilder();
        for (int k = 0; k < n; k++) {
            more.insert(0, (char) (w & 255));
            w >>= 8;
        }
        tape += more;
        return tape.length();
    }

    int read() {
        String text = tape;
        tape = "";
        try {
            new Text(text).take();
        } catch (Fault f) {
            latestFault = f.number;
            return -1000100 - f.place;
        }
        return lines.size();
    }

    int fault() {
        return latestFault;
    }

    private final class Text {
        private final List<String> tokens = new ArrayList<>();
        private final List<Integer> places = new ArrayList<>();
        private int at = 0;
        private final List<Book> b = new ArrayList<>(books);
        private final List<Line> l = new ArrayList<>(lines);
        private final List<Order> o = new ArrayList<>(orders);
        private final List<House> h = new ArrayList<>(houses);

        Text(String text) {
            Matcher m = Pattern.compile("[a-z]+|[0-9]+|[^ \n]", Pattern.DOTALL).matcher(text);
            while (m.find()) {
                tokens.add(m.group());
                places.add(m.start());
            }
            tokens.add("");
            places.add(text.length());
        }

        void take() {
            while (!tokens.get(at).isEmpty()) part();
            books = b;
            lines = l;
            orders = o;
            houses = h;
        }

        private void part() {
            int first = at;
            String word = tokens.get(at++);
            switch (word) {
                case "book" -> {
                    room(first, b.size() < 10);
                    int year = number(1, 9998);
                    int lag = number(0, 9, year - 1);
                    b.add(new Book(year, lag, number(1, 99)));
                }
                case "line" -> {
                    room(first, l.size() < 12);
                    int book = number(0, b.size() - 1);
                    int sort = SORTS.indexOf(tokens.get(at));
                    if (sort < 0) throw new Fault(1, places.get(at));
                    at++;
                    int street = number(0, 3);
                    int number = number(1, 99);
                    String name = name();
                    int age = NONE;
                    if (tokens.get(at).equals("age")) {
                        at++;
                        age = number(0, 120);
                    }
                    l.add(new Line(book, sort, street, number, name, age));
                }
                case "order" -> {
                    room(first, o.size() < 20);
                    int year = number(1, 9998);
                    int street = number(0, 3);
                    int old = number(1, 99);
                    int renewed = number(1, 99);
                    if (renewed == old) throw new Fault(2, places.get(at - 1));
                    o.add(new Order(year, street, old, renewed));
                }
                case "house" -> {
                    room(first, h.size() < 20);
                    int street = number(0, 3);
                    int number = number(1, 99);
                    int from = number(1, 9998);
                    h.add(new House(street, number, from, number(from + 1, 9999)));
                }
                default -> throw new Fault(1, places.get(first));
            }
            if (!tokens.get(at).equals(";")) throw new Fault(1, places.get(at));
            at++;
        }

        private void room(int first, boolean is) {
            if (!is) throw new Fault(3, places.get(first));
        }

        private int number(int least, int... most) {
            String token = tokens.get(at);
            if (!token.matches("[0-9]{1,4}")) throw new Fault(1, places.get(at));
            int v = Integer.parseInt(token);
            for (int m : most) if (v < least || v > m) throw new Fault(2, places.get(at));
            at++;
            return v;
        }

        private String name() {
            String token = tokens.get(at);
            if (!token.matches("[a-z]+")) throw new Fault(1, places.get(at));
            if (token.length() > 8) throw new Fault(2, places.get(at));
            at++;
            return token;
        }
    }

    // ---- lines

    private boolean noLine(int line) {
        return !in(line, 0, lines.size() - 1);
    }

    private int gathered(int line) {
        return books.get(lines.get(line).book).gathered();
    }

    private int door(int line) {
        return numberToday(lines.get(line).street, lines.get(line).number, gathered(line));
    }

    private boolean oneDoor(int a, int b) {
        return lines.get(a).street == lines.get(b).street && door(a) == door(b);
    }

    private boolean homeless(int line) {
        int g = gathered(line);
        List<House> at = houses.stream()
            .filter(h -> h.street == lines.get(line).street && h.number == door(line)).toList();
        return !at.isEmpty() && at.stream().noneMatch(h -> in(g, h.from, h.to - 1));
    }

    int line(int line, int what) {
        if (noLine(line) || !in(what, 0, 8)) return BAD;
        Line l = lines.get(line);
        return new int[] {l.book, l.sort, l.street, l.number, l.age, gathered(line), door(line),
            homeless(line) ? 1 : 0, l.name.length()}[what];
    }

    private static String earOf(String name) {
        String behind = name.substring(1)
            .replaceAll("[bfpv]", "1").replaceAll("[cgjkqsxz]", "2").replaceAll("[dt]", "3")
            .replaceAll("l", "4").replaceAll("[mn]", "5").replaceAll("r", "6")
            .replaceAll("[a-z]", "").replaceAll("(.)\\1+", "$1");
        return name.charAt(0) + (behind + "000").substring(0, 3);
    }

    int ear(int line) {
        if (noLine(line)) return BAD;
        String ear = earOf(lines.get(line).name);
        return (ear.charAt(0) - 'a') * 1000 + Integer.parseInt(ear.substring(1));
    }

    private static int handOf(String a, String b) {
        int[][] d = new int[a.length() + 1][b.length() + 1];
        for (int i = 0; i <= a.length(); i++) {
            for (int j = 0; j <= b.length(); j++) {
                if (i == 0 || j == 0) d[i][j] = i + j;
                else d[i][j] = Math.min(d[i - 1][j - 1] + (a.charAt(i - 1) == b.charAt(j - 1) ? 0 : 1),
                    1 + Math.min(d[i - 1][j], d[i][j - 1]));
            }
        }
        return d[a.length()][b.length()];
    }

    private boolean like(int a, int b) {
        String x = lines.get(a).name;
        String y = lines.get(b).name;
        return earOf(x).equals(earOf(y)) || handOf(x, y) <= 1;
    }

    private boolean home(int line) {
        return lines.get(line).sort <= 2;
    }

    private boolean may(int a, int b) {
        if (!like(a, b)) return false;
        int later = gathered(a) >= gathered(b) ? a : b;
        int other = later == a ? b : a;
        int ageLater = lines.get(later).age;
        int ageOther = lines.get(other).age;
        int years = gathered(later) - gathered(other);
        if (ageLater != NONE && ageOther != NONE && !in(ageLater - ageOther, years - 2, years + 2)) return false;
        return !(home(a) && home(b) && years == 0 && !oneDoor(a, b));
    }

    int alike(int a, int b, int what) {
        if (noLine(a) || noLine(b) || !in(what, 0, 2)) return BAD;
        if (what == 0) return handOf(lines.get(a).name, lines.get(b).name);
        return (what == 1 ? like(a, b) : may(a, b)) ? 1 : 0;
    }

    // ---- doors

    private int numberToday(int street, int number, int year) {
        List<Order> later = new ArrayList<>(orders.stream().filter(o -> o.year > year).toList());
        later.sort(Comparator.comparingInt(Order::year));
        for (Order o : later) if (o.street == street && o.old == number) number = o.renewed;
        return number;
    }

    int today(int street, int number, int year) {
        if (!in(street, 0, 3) || !in(number, 1, 99) || !in(year, 0, 9999)) return BAD;
        return numberToday(street, number, year);
    }

    int quarrels() {
        int n = 0;
        for (int i = 0; i < orders.size(); i++) {
            Order o = orders.get(i);
            if (orders.subList(0, i).stream()
                .anyMatch(p -> p.year == o.year && p.street == o.street && p.old == o.old)) n++;
        }
        return n;
    }

    int walks(int sheet, int i, int n) {
        if (!in(sheet, 0, 7) || !in(n, 1, 20)) return BAD;
        if (sheets[sheet] == null) return found(1);
        if (i < 0 || (long) i + 3 * n > sheets[sheet].length) return found(2);
        Map<String, Integer> ends = new HashMap<>();
        for (int k = i; k < i + 3 * n; k += 3) {
            int street = (int) sheets[sheet][k];
            int end = today(street, (int) sheets[sheet][k + 1], (int) sheets[sheet][k + 2]);
            if (end == BAD) return BAD;
            ends.merge(street + "/" + end, 1, Integer::sum);
        }
        return well(ends.values().stream().filter(v -> v > 1).mapToInt(v -> v).sum());
    }

    // ---- persons

    private final List<List<Integer>> rivals = new ArrayList<>();
    private int fewest;

    /** Every parting, LINE by LINE into a PERSON that there is or a new one; those with the fewest stay in rivals. */
    private void part() {
        rivals.clear();
        fewest = Integer.MAX_VALUE;
        boolean[][] m = new boolean[lines.size()][lines.size()];
        for (int a = 0; a < lines.size(); a++) for (int b = 0; b < lines.size(); b++) m[a][b] = may(a, b);
        part(0, new ArrayList<>(), m);
    }

    private void part(int line, List<Integer> persons, boolean[][] m) {
        if (persons.size() > fewest) return;
        if (line == lines.size()) {
            if (persons.size() < fewest) rivals.clear();
            fewest = persons.size();
            rivals.add(List.copyOf(persons));
            return;
        }
        for (int p = 0; p < persons.size(); p++) {
            int was = persons.get(p);
            boolean fits = true;
            for (int k = 0; k < line; k++) if ((was >> k & 1) == 1 && !m[k][line]) fits = false;
            if (!fits) continue;
            persons.set(p, was | 1 << line);
            part(line + 1, persons, m);
            persons.set(p, was);
        }
        persons.add(1 << line);
        part(line + 1, persons, m);
        persons.remove(persons.size() - 1);
    }

    /** PERSONS stand by their first LINES in each rival already. */
    private List<Integer> first() {
        part();
        List<Integer> best = rivals.get(0);
        for (List<Integer> r : rivals) {
            for (int k = 0; k < r.size(); k++) {
                if (r.get(k).equals(best.get(k))) continue;
                if (r.get(k) < best.get(k)) best = r;
                break;
            }
        }
        return best;
    }

    long joined(int what) {
        if (!in(what, 0, 2)) return BAD;
        List<Integer> first = first();
        if (what == 0) return fewest;
        if (what == 1) return rivals.size();
        return first.stream().mapToInt(Integer::bitCount).max().orElse(0);
    }

    int person(int line) {
        if (noLine(line)) return BAD;
        return first().stream().filter(p -> (p >> line & 1) == 1).findFirst().orElseThrow();
    }

    long sure(int a, int b) {
        if (noLine(a) || noLine(b)) return BAD;
        part();
        return rivals.stream()
            .filter(r -> r.stream().anyMatch(p -> (p >> a & 1) == 1 && (p >> b & 1) == 1)).count();
    }

    int stay(int line, int what) {
        if (noLine(line) || !in(what, 0, 3)) return BAD;
        int person = person(line);
        List<Integer> years = new ArrayList<>();
        for (int k = 0; k < lines.size(); k++) {
            if ((person >> k & 1) == 1 && oneDoor(k, line) && lines.get(k).sort != 4) years.add(gathered(k));
        }
        if (years.isEmpty()) return NONE;
        years.sort(null);
        int first = years.get(0);
        int last = years.get(years.size() - 1);
        if (what == 0) return first;
        if (what == 1) return last;
        if (what == 2) return books.stream().mapToInt(Book::gathered).filter(g -> g < first).max().orElse(0);
        return books.stream().mapToInt(Book::gathered).filter(g -> g > last).min().orElse(9999);
    }

    // ---- lost orders, books

    private List<Integer> stood(int street, int year) {
        List<Integer> all = new ArrayList<>();
        for (int k = 0; k < lines.size(); k++) if (lines.get(k).street == street && gathered(k) == year) all.add(k);
        all.sort(Comparator.comparingInt(k -> lines.get(k).number));
        return all;
    }

    /** All pairs that may come first, in their order: the first that leaves room for the most behind it is taken. */
    private List<Pair> pairs(List<Integer> before, List<Integer> after, int b, int a, Map<Integer, List<Pair>> known) {
        List<Pair> best = known.get(100 * b + a);
        if (best != null) return best;
        best = List.of();
        for (int x = b; x < before.size(); x++) {
            for (int y = a; y < after.size(); y++) {
                if (!like(before.get(x), after.get(y))) continue;
                List<Pair> way = new ArrayList<>();
                way.add(new Pair(before.get(x), after.get(y)));
                way.addAll(pairs(before, after, x + 1, y + 1, known));
                if (way.size() > best.size()) best = way;
            }
        }
        known.put(100 * b + a, best);
        return best;
    }

    private boolean badLost(int street, int from, int to) {
        return !in(street, 0, 3) || !in(from, 0, 9999) || !in(to, 0, 9999);
    }

    int lost(int street, int from, int to, int what) {
        if (badLost(street, from, to) || !in(what, 0, 2)) return BAD;
        List<Integer> before = stood(street, from);
        List<Integer> after = stood(street, to);
        if (what == 1) return before.size();
        if (what == 2) return after.size();
        return pairs(before, after, 0, 0, new HashMap<>()).size();
    }

    int found(int street, int from, int to, int i, int what) {
        if (badLost(street, from, to) || !in(what, 0, 1)) return BAD;
        List<Pair> pairs = pairs(stood(street, from), stood(street, to), 0, 0, new HashMap<>());
        if (!in(i, 0, pairs.size() - 1)) return NONE;
        return what == 0 ? pairs.get(i).before : pairs.get(i).after;
    }

    private List<Integer> linesOf(int book) {
        List<Integer> all = new ArrayList<>();
        for (int k = 0; k < lines.size(); k++) if (lines.get(k).book == book) all.add(k);
        return all;
    }

    int missing(int a, int b, int what) {
        if (!in(a, 0, books.size() - 1) || !in(b, 0, books.size() - 1) || a == b || !in(what, 0, 2)) return BAD;
        List<Integer> of = linesOf(a);
        List<Integer> other = linesOf(b);
        int both = (int) of.stream().filter(x -> other.stream().anyMatch(y -> like(x, y) && oneDoor(x, y))).count();
        if (what == 2) return both;
        if (what == 1) return of.size() + other.size() - both;
        return both == 0 ? NONE : of.size() * other.size() / both;
    }

    int shown(int line, int year) {
        if (noLine(line) || !in(year, 0, 9999)) return BAD;
        return gathered(line) + (lines.get(line).sort == 2 ? 100 : 72) <= year ? 1 : 0;
    }

    int leaf(int book, int is) {
        if (!in(book, 0, books.size() - 1) || !in(is, 0, 1)) return BAD;
        int was = read[book] ? 1 : 0;
        read[book] = is == 1;
        return was;
    }

    int next() {
        int best = NONE;
        int most = -1;
        for (int b = 0; b < books.size(); b++) {
            if (read[b]) continue;
            int fresh = 0;
            for (int x : linesOf(b)) {
                boolean seen = false;
                for (int y = 0; y < lines.size(); y++) if (read[lines.get(y).book] && oneDoor(x, y)) seen = true;
                if (!seen) fresh++;
            }
            int worth = fresh * 1000 / books.get(b).pages;
            if (worth > most) {
                most = worth;
                best = b;
            }
        }
        return best;
    }

    // ---- asked

    int kind(int line) {
        return noLine(line) ? BAD : lines.get(line).sort + 1;
    }

    private static final int[] ABOVE = {-1, 0, 1, 1, 0, 0};

    int as(int line, int kind) {
        if (noLine(line) || !in(kind, 0, 5)) return BAD;
        for (int k = kind(line); k >= 0; k = ABOVE[k]) if (k == kind) return well(lines.get(line).number);
        return found(3);
    }

    /** The BODY of each KIND, 0: it has none of its own. */
    private static final int[][] BODIES = {{10, 11, 12, 13, 0, 14}, {20, 21, 0, 22, 23, 0}};

    private int asked(int line, int what) {
        int k = kind(line);
        while (BODIES[what][k] == 0) k = ABOVE[k];
        return body(line, BODIES[what][k]);
    }

    private int body(int line, int body) {
        if (trace.size() < 16) trace.add(body);
        Line l = lines.get(line);
        switch (body) {
            case 10: return l.name.length();
            case 11: return body(line, 10) + l.number;
            case 12: return 2 * body(line, 11);
            case 13: return body(line, 11) + asked(line, 1);
            case 14: return -body(line, 10);
            case 20: return gathered(line);
            case 21: return body(line, 20) + l.street;
            case 22: return body(line, 21) + Math.max(0, l.age);
            default: return body(line, 20) + asked(line, 0);
        }
    }

    int ask(int line, int what) {
        if (noLine(line) || !in(what, 0, 1)) return BAD;
        trace = new ArrayList<>();
        return asked(line, what);
    }

    int trace(int i) {
        return in(i, 0, trace.size() - 1) ? trace.get(i) : NONE;
    }

    int count(int what) {
        int n = 0;
        switch (what) {
            case 0:
                for (long[] s : sheets) if (s != null) n++;
                return n;
            case 1: return books.size();
            case 2: return lines.size();
            case 3: return orders.size();
            case 4: return houses.size();
            case 5:
                for (int k = 0; k < lines.size(); k++) if (home(k)) n++;
                return n;
            case 6:
                for (int k = 0; k < lines.size(); k++) if (homeless(k)) n++;
                return n;
            case 7: return tape.length();
            default: return BAD;
        }
    }

    int status() {
        return status;
    }
}
