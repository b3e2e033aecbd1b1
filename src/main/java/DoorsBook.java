/** Who lived where: a city's doors and people, from books that lag. DOC.md tells each call. */
public final class DoorsBook {
    public static final int NONE = -1000000, BAD = -1000001, STATE = -1000002, FULL = -1000003;

    private static final int BEFORE_FINDINGS = -1000010, FIRST_FAULT = -1000100;
    private static final int NULL = 1, PLACE = 2, KIND = 3, SIZE = 4, STORE = 5;

    private static final int SHEETS = 8, LANES = 3, SHEET_ITEMS = 60, BYTES = 0, SHORTS = 1;
    private static final int TAPE_BYTES = 600, FEED_BYTES = 8;
    private static final int BOOKS = 10, LINES = 12, ORDERS = 20, HOUSES = 20;
    private static final int STREETS = 4, LAST_NUMBER = 99, LAST_YEAR = 9998, YEARS_END = 9999;
    private static final int LONGEST_LAG = 9, MOST_PAGES = 99, OLDEST = 120, NAME_LETTERS = 8;
    private static final int LISTED = 0, RATED = 1, COUNTED = 2, TRADE = 3, STALE = 4, KINDS = 6;
    private static final int WALKS = 20, WALK_ITEMS = 3;
    private static final int HIDDEN_YEARS = 72, COUNTED_HIDDEN_YEARS = 100;

    private final Sheets sheets = new Sheets();
    private final Tape tape = new Tape();
    private final Books books = new Books();
    private final Orders orders = new Orders();
    private final Houses houses = new Houses();
    private final Lines lines = new Lines();
    private final Reader reader;
    private final Persons persons;
    private final LostOrder lostOrder;
    private final Asks asks;
    private final int[] walkEnds = new int[WALKS];
    private int latestFault;
    private int latestFinding;

    public DoorsBook() {
        reader = new Reader(tape, books, lines, orders, houses);
        persons = new Persons(lines);
        lostOrder = new LostOrder(lines);
        asks = new Asks(lines);
    }

    // ---- sheets

    public int sheet(int sheet, int lane, int n) {
        if (noSheet(sheet) || lane < 0 || lane >= LANES || n > SHEET_ITEMS) return BAD;
        if (n < 0) return finding(SIZE);
        sheets.lay(sheet, lane, n);
        return withoutFinding(n);
    }

    public int set(int sheet, int i, int v) {
        if (noSheet(sheet)) return BAD;
        if (sheets.isMissing(sheet)) return finding(NULL);
        if (!sheets.holds(sheet, i, 1)) return finding(PLACE);
        return withoutFinding(sheets.put(sheet, i, v));
    }

    public int copy(int a, int i, int b, int j, int n) {
        if (noSheet(a) || noSheet(b)) return BAD;
        if (sheets.isMissing(a) || sheets.isMissing(b)) return finding(NULL);
        if (!sheets.haveOneLane(a, b)) return finding(STORE);
        if (!sheets.holds(a, i, n) || !sheets.holds(b, j, n)) return finding(PLACE);
        sheets.move(a, i, b, j, n);
        return withoutFinding(n);
    }

    public int drop(int sheet) {
        if (noSheet(sheet)) return BAD;
        if (sheets.isMissing(sheet)) return finding(NULL);
        return withoutFinding(sheets.lose(sheet));
    }

    // ---- texts, lines

    public int feed(long w, int n) {
        if (n < 1 || n > FEED_BYTES) return BAD;
        if (tape.length + n > TAPE_BYTES) return FULL;
        for (int k = n - 1; k >= 0; k--) tape.add((byte) (w >>> (8 * k)));
        return tape.length;
    }

    public int read() {
        boolean well = reader.readAll();
        tape.length = 0;
        if (!well) {
            latestFault = reader.faultNumber;
            return FIRST_FAULT - reader.faultPlace;
        }
        keepTold();
        return lines.count;
    }

    public int fault() {
        return latestFault;
    }

    public int line(int line, int what) {
        if (noLine(line)) return BAD;
        switch (what) {
            case 0: return lines.book[line];
            case 1: return lines.sort[line];
            case 2: return lines.street[line];
            case 3: return lines.number[line];
            case 4: return lines.age[line];
            case 5: return lines.gathered[line];
            case 6: return lines.door[line];
            case 7: return isHomeless(line) ? 1 : 0;
            case 8: return lines.names.length[line];
            default: return BAD;
        }
    }

    public int ear(int line) {
        return noLine(line) ? BAD : lines.names.ears[line];
    }

    public int alike(int a, int b, int what) {
        if (noLine(a) || noLine(b)) return BAD;
        switch (what) {
            case 0: return lines.names.hand(a, b);
            case 1: return lines.names.areLike(a, b) ? 1 : 0;
            case 2: return lines.mayBeOne(a, b) ? 1 : 0;
            default: return BAD;
        }
    }

    // ---- doors

    public int today(int street, int number, int year) {
        return isPlace(street, number, year) ? orders.numberToday(street, number, year) : BAD;
    }

    public int quarrels() {
        return orders.countQuarrels();
    }

    public int walks(int sheet, int i, int n) {
        if (noSheet(sheet) || n < 1 || n > WALKS) return BAD;
        if (sheets.isMissing(sheet)) return finding(NULL);
        if (!sheets.holds(sheet, i, WALK_ITEMS * n)) return finding(PLACE);
        for (int walk = 0; walk < n; walk++) {
            int end = walkEnd(sheet, i + WALK_ITEMS * walk);
            if (end == BAD) return BAD;
            walkEnds[walk] = end;
        }
        return withoutFinding(countMeetings(n));
    }

    // ---- persons

    public long joined(int what) {
        switch (what) {
            case 0: return persons.countFewest();
            case 1: return persons.countRivals();
            case 2: return persons.linesOfGreatest();
            default: return BAD;
        }
    }

    public int person(int line) {
        return noLine(line) ? BAD : persons.personOf(line);
    }

    public long sure(int a, int b) {
        return noLine(a) || noLine(b) ? BAD : persons.rivalsWithBoth(a, b);
    }

    public int stay(int line, int what) {
        if (noLine(line) || what < 0 || what > 3) return BAD;
        int person = persons.personOf(line);
        int first = lines.firstStanding(person, line);
        if (first == NONE) return NONE;
        switch (what) {
            case 0: return first;
            case 1: return lines.lastStanding(person, line);
            case 2: return books.gatheredBelow(first);
            default: return books.gatheredAbove(lines.lastStanding(person, line));
        }
    }

    // ---- lost orders, books

    public int lost(int street, int from, int to, int what) {
        if (noStreet(street) || noYear(from) || noYear(to) || what < 0 || what > 2) return BAD;
        lostOrder.lookAt(street, from, to);
        switch (what) {
            case 0: return lostOrder.kept();
            case 1: return lostOrder.befores;
            default: return lostOrder.afters;
        }
    }

    public int found(int street, int from, int to, int i, int what) {
        if (noStreet(street) || noYear(from) || noYear(to) || what < 0 || what > 1) return BAD;
        lostOrder.lookAt(street, from, to);
        if (i < 0 || i >= lostOrder.kept()) return NONE;
        return lostOrder.lineOfPair(i, what == 0);
    }

    public int missing(int a, int b, int what) {
        if (noBook(a) || noBook(b) || a == b || what < 0 || what > 2) return BAD;
        int linesOfA = lines.countOfBook(a);
        int linesOfB = lines.countOfBook(b);
        int both = lines.countInBoth(a, b);
        switch (what) {
            case 0: return both == 0 ? NONE : linesOfA * linesOfB / both;
            case 1: return linesOfA + linesOfB - both;
            default: return both;
        }
    }

    public int shown(int line, int year) {
        if (noLine(line) || noYear(year)) return BAD;
        int hidden = lines.sort[line] == COUNTED ? COUNTED_HIDDEN_YEARS : HIDDEN_YEARS;
        return year - lines.gathered[line] >= hidden ? 1 : 0;
    }

    public int leaf(int book, int is) {
        if (noBook(book) || is < 0 || is > 1) return BAD;
        int was = books.isRead[book] ? 1 : 0;
        books.isRead[book] = is == 1;
        return was;
    }

    public int next() {
        int best = NONE;
        int bestWorth = -1;
        for (int book = 0; book < books.count; book++) {
            if (books.isRead[book]) continue;
            int worth = books.worth(book, lines.countUnseen(book, books));
            if (worth > bestWorth) {
                bestWorth = worth;
                best = book;
            }
        }
        return best;
    }

    // ---- asked

    public int kind(int line) {
        return noLine(line) ? BAD : lines.sort[line] + 1;
    }

    public int as(int line, int kind) {
        if (noLine(line) || kind < 0 || kind >= KINDS) return BAD;
        if (!lines.isOfKind(line, kind)) return finding(KIND);
        return withoutFinding(lines.number[line]);
    }

    public int ask(int line, int what) {
        if (noLine(line) || what < 0 || what > 1) return BAD;
        asks.traced = 0;
        return what == 0 ? asks.sizeOf(line) : asks.markOf(line);
    }

    public int trace(int i) {
        return i < 0 || i >= asks.traced ? NONE : asks.bodies[i];
    }

    public int count(int what) {
        switch (what) {
            case 0: return sheets.countLaid();
            case 1: return books.count;
            case 2: return lines.count;
            case 3: return orders.count;
            case 4: return houses.count;
            case 5: return lines.countHomes();
            case 6: return countHomeless();
            case 7: return tape.length;
            default: return BAD;
        }
    }

    public int status() {
        return latestFinding;
    }

    // ---- what the calls share

    private void keepTold() {
        if (lines.count < lines.told || orders.count < orders.told) persons.areOutdated = true;
        books.count = books.told;
        houses.count = houses.told;
        orders.keep();
        lines.keep(books, orders);
    }

    private int finding(int number) {
        latestFinding = number;
        return BEFORE_FINDINGS - number;
    }

    private int withoutFinding(int answer) {
        latestFinding = 0;
        return answer;
    }

    private boolean noSheet(int sheet) {
        return sheet < 0 || sheet >= SHEETS;
    }

    private boolean noLine(int line) {
        return line < 0 || line >= lines.count;
    }

    private boolean noBook(int book) {
        return book < 0 || book >= books.count;
    }

    private boolean noStreet(int street) {
        return street < 0 || street >= STREETS;
    }

    private boolean noYear(int year) {
        return year < 0 || year > YEARS_END;
    }

    private boolean isPlace(int street, int number, int year) {
        return !noStreet(street) && number >= 1 && number <= LAST_NUMBER && !noYear(year);
    }

    /** One number for the DOOR that a walk comes to; BAD if an ITEM is not as told. */
    private int walkEnd(int sheet, int i) {
        int street = sheets.item(sheet, i);
        int number = sheets.item(sheet, i + 1);
        int year = sheets.item(sheet, i + 2);
        if (!isPlace(street, number, year)) return BAD;
        return street * (LAST_NUMBER + 1) + orders.numberToday(street, number, year);
    }

    private int countMeetings(int n) {
        int meetings = 0;
        for (int walk = 0; walk < n; walk++) {
            if (meetsAnother(walk, n)) meetings++;
        }
        return meetings;
    }

    private boolean meetsAnother(int walk, int n) {
        for (int other = 0; other < n; other++) {
            if (other != walk && walkEnds[other] == walkEnds[walk]) return true;
        }
        return false;
    }

    private boolean isHomeless(int line) {
        return houses.noneStands(lines.street[line], lines.door[line], lines.gathered[line]);
    }

    private int countHomeless() {
        int homeless = 0;
        for (int line = 0; line < lines.count; line++) {
            if (isHomeless(line)) homeless++;
        }
        return homeless;
    }

    /** The SHEETS, side by side in one row, so that laying one anew makes no object. */
    private static final class Sheets {
        private static final int MISSING = -1;

        private final int[] lanes = new int[SHEETS];
        private final int[] sizes = new int[SHEETS];
        private final int[] items = new int[SHEETS * SHEET_ITEMS];

        Sheets() {
            for (int sheet = 0; sheet < SHEETS; sheet++) sizes[sheet] = MISSING;
        }

        boolean isMissing(int sheet) {
            return sizes[sheet] == MISSING;
        }

        boolean haveOneLane(int a, int b) {
            return lanes[a] == lanes[b];
        }

        /** Compares without i + n, which could wrap around. */
        boolean holds(int sheet, int i, int n) {
            return i >= 0 && n >= 0 && i <= sizes[sheet] - n;
        }

        void lay(int sheet, int lane, int n) {
            lanes[sheet] = lane;
            sizes[sheet] = n;
            for (int i = 0; i < n; i++) items[sheet * SHEET_ITEMS + i] = 0;
        }

        int item(int sheet, int i) {
            return items[sheet * SHEET_ITEMS + i];
        }

        int put(int sheet, int i, int v) {
            int cut = lanes[sheet] == BYTES ? (byte) v : lanes[sheet] == SHORTS ? (short) v : v;
            items[sheet * SHEET_ITEMS + i] = cut;
            return cut;
        }

        void move(int a, int i, int b, int j, int n) {
            System.arraycopy(items, a * SHEET_ITEMS + i, items, b * SHEET_ITEMS + j, n);
        }

        int lose(int sheet) {
            int had = sizes[sheet];
            sizes[sheet] = MISSING;
            return had;
        }

        int countLaid() {
            int laid = 0;
            for (int sheet = 0; sheet < SHEETS; sheet++) {
                if (!isMissing(sheet)) laid++;
            }
            return laid;
        }
    }

    /** THE TAPE, and the one TOKEN of it that stands next. */
    private static final class Tape {
        static final int END = 0, WORD = 1, FIGURES = 2, SIGN = 3, NO_TOKEN = 4;
        private static final int MOST_FIGURES = 4;

        private final byte[] bytes = new byte[TAPE_BYTES];
        int length;
        int token;
        int start;
        private int end;

        void add(byte b) {
            if (length < TAPE_BYTES) bytes[length++] = b;
        }

        void rewind() {
            end = 0;
            step();
        }

        void step() {
            start = end;
            while (start < length && (bytes[start] == 32 || bytes[start] == 10)) start++;
            end = start;
            if (start >= length) {
                token = END;
            } else if (isLetter(bytes[start])) {
                token = WORD;
                while (end < length && isLetter(bytes[end])) end++;
            } else if (isFigure(bytes[start])) {
                while (end < length && isFigure(bytes[end])) end++;
                token = end - start <= MOST_FIGURES ? FIGURES : NO_TOKEN;
            } else {
                token = bytes[start] == ';' ? SIGN : NO_TOKEN;
                end = start + 1;
            }
        }

        /** What FIGURES tell. */
        int number() {
            int told = 0;
            for (int k = start; k < end && k < length; k++) told = 10 * told + bytes[k] - '0';
            return told;
        }

        int letters() {
            return end - start;
        }

        /** Letter k of a WORD, 0 for a. */
        int letter(int k) {
            int at = start + k;
            return at < 0 || at >= length ? 0 : bytes[at] - 'a';
        }

        boolean isWord(String word) {
            if (token != WORD || letters() != word.length()) return false;
            for (int k = 0; k < word.length(); k++) {
                if (letter(k) != word.charAt(k) - 'a') return false;
            }
            return true;
        }

        private static boolean isLetter(byte b) {
            return b >= 'a' && b <= 'z';
        }

        private static boolean isFigure(byte b) {
            return b >= '0' && b <= '9';
        }
    }

    /** The BOOKS; those from count to told are of a text that is not yet read to its end. */
    private static final class Books {
        final int[] gathered = new int[BOOKS];
        final int[] pages = new int[BOOKS];
        final boolean[] isRead = new boolean[BOOKS];
        int count;
        int told;

        void tell(int gatheredIn, int pagesOfIt) {
            if (told >= BOOKS) return;
            gathered[told] = gatheredIn;
            pages[told] = pagesOfIt;
            told++;
        }

        int gatheredBelow(int year) {
            int below = 0;
            for (int book = 0; book < count; book++) {
                if (gathered[book] < year) below = Math.max(below, gathered[book]);
            }
            return below;
        }

        int gatheredAbove(int year) {
            int above = YEARS_END;
            for (int book = 0; book < count; book++) {
                if (gathered[book] > year) above = Math.min(above, gathered[book]);
            }
            return above;
        }

        int worth(int book, int unseen) {
            return pages[book] < 1 ? 0 : unseen * 1000 / pages[book];
        }
    }

    /** The ORDERS, kept by years, of one year as they were told; behind count as with Books. */
    private static final class Orders {
        private final int[] year = new int[ORDERS];
        private final int[] street = new int[ORDERS];
        private final int[] oldNumber = new int[ORDERS];
        private final int[] newNumber = new int[ORDERS];
        int count;
        int told;

        void tell(int from, int onStreet, int old, int renewed) {
            if (told >= ORDERS) return;
            put(told, from, onStreet, old, renewed);
            told++;
        }

        private void put(int at, int from, int onStreet, int old, int renewed) {
            year[at] = from;
            street[at] = onStreet;
            oldNumber[at] = old;
            newNumber[at] = renewed;
        }

        void keep() {
            while (count < told) {
                sortIn(count);
                count++;
            }
        }

        /** Stops at a like year, so that of one year the order told first stays first. */
        private void sortIn(int order) {
            int from = year[order];
            int onStreet = street[order];
            int old = oldNumber[order];
            int renewed = newNumber[order];
            int at = order;
            while (at > 0 && year[at - 1] > from) {
                put(at, year[at - 1], street[at - 1], oldNumber[at - 1], newNumber[at - 1]);
                at--;
            }
            put(at, from, onStreet, old, renewed);
        }

        int numberToday(int onStreet, int number, int ofYear) {
            int now = number;
            for (int order = 0; order < count; order++) {
                if (year[order] > ofYear && street[order] == onStreet && oldNumber[order] == now) {
                    now = newNumber[order];
                }
            }
            return now;
        }

        int countQuarrels() {
            int quarrelling = 0;
            for (int order = 1; order < count; order++) {
                if (quarrelsWithEarlier(order)) quarrelling++;
            }
            return quarrelling;
        }

        private boolean quarrelsWithEarlier(int order) {
            for (int earlier = 0; earlier < order; earlier++) {
                if (year[earlier] == year[order] && street[earlier] == street[order]
                        && oldNumber[earlier] == oldNumber[order]) return true;
            }
            return false;
        }
    }

    /** The HOUSES; behind count as with Books. */
    private static final class Houses {
        private final int[] street = new int[HOUSES];
        private final int[] number = new int[HOUSES];
        private final int[] from = new int[HOUSES];
        private final int[] to = new int[HOUSES];
        int count;
        int told;

        void tell(int onStreet, int numberToday, int built, int gone) {
            if (told >= HOUSES) return;
            street[told] = onStreet;
            number[told] = numberToday;
            from[told] = built;
            to[told] = gone;
            told++;
        }

        /** Whether HOUSES are told of a door, but none that stood in the year. */
        boolean noneStands(int onStreet, int atNumber, int year) {
            boolean any = false;
            for (int house = 0; house < count; house++) {
                if (street[house] != onStreet || number[house] != atNumber) continue;
                if (from[house] <= year && year < to[house]) return false;
                any = true;
            }
            return any;
        }
    }

    /** The NAMES of the LINES, with what follows from them alone: worked out once, as a NAME never changes. */
    private static final class Names {
        private static final int EAR_CODES = 3;
        private static final int[] CODES = {
            0, 1, 2, 3, 0, 1, 2, 0, 0, 2, 2, 4, 5, 5, 0, 1, 2, 6, 2, 3, 0, 1, 0, 2, 0, 2
        };

        private final int[] letters = new int[LINES * NAME_LETTERS];
        private final int[] steps = new int[NAME_LETTERS + 1];
        private final int[] likes = new int[LINES];
        final int[] length = new int[LINES];
        final int[] ears = new int[LINES];

        void tell(int line, Tape tape) {
            if (line < 0 || line >= LINES) return;
            length[line] = Math.min(tape.letters(), NAME_LETTERS);
            for (int k = 0; k < length[line]; k++) {
                letters[line * NAME_LETTERS + k] = tape.letter(k);
            }
        }

        /** All LINES ahead of this one must have been compared. */
        void compare(int line) {
            ears[line] = earOf(line);
            likes[line] = 1 << line;
            for (int other = 0; other < line; other++) {
                if (ears[other] == ears[line] || hand(other, line) <= 1) {
                    likes[other] |= 1 << line;
                    likes[line] |= 1 << other;
                }
            }
        }

        boolean areLike(int a, int b) {
            return (likes[a] >> b & 1) == 1;
        }

        private int letter(int line, int k) {
            return letters[line * NAME_LETTERS + k];
        }

        private int earOf(int line) {
            int ear = letter(line, 0);
            int taken = 0;
            int last = 0;
            for (int k = 1; k < length[line] && taken < EAR_CODES; k++) {
                int code = codeOf(letter(line, k));
                if (code == 0 || code == last) continue;
                ear = 10 * ear + code;
                last = code;
                taken++;
            }
            for (; taken < EAR_CODES; taken++) ear = 10 * ear;
            return ear;
        }

        private static int codeOf(int letter) {
            return letter < 0 || letter >= CODES.length ? 0 : CODES[letter];
        }

        /** Row by row: steps[j] is what it takes from the letters of a so far to j letters of b. */
        int hand(int a, int b) {
            for (int j = 0; j <= length[b]; j++) steps[j] = j;
            for (int i = 1; i <= length[a]; i++) {
                int aslant = steps[0];
                steps[0] = i;
                for (int j = 1; j <= length[b]; j++) {
                    int above = steps[j];
                    int changed = letter(a, i - 1) == letter(b, j - 1) ? aslant : aslant + 1;
                    steps[j] = Math.min(changed, Math.min(above, steps[j - 1]) + 1);
                    aslant = above;
                }
            }
            return steps[length[b]];
        }
    }

    /** The LINES; behind count as with Books. */
    private static final class Lines {
        private static final int AGE_SLACK = 2;

        final int[] book = new int[LINES];
        final int[] sort = new int[LINES];
        final int[] street = new int[LINES];
        final int[] number = new int[LINES];
        final int[] age = new int[LINES];
        final int[] gathered = new int[LINES];
        final int[] door = new int[LINES];
        final Names names = new Names();
        int count;
        int told;

        /** Doors of all LINES are found anew: the text may have told ORDERS, too. */
        void keep(Books books, Orders orders) {
            while (count < told) {
                gathered[count] = books.gathered[book[count]];
                names.compare(count);
                count++;
            }
            for (int line = 0; line < count; line++) {
                door[line] = orders.numberToday(street[line], number[line], gathered[line]);
            }
        }

        boolean isHome(int line) {
            return sort[line] == LISTED || sort[line] == RATED || sort[line] == COUNTED;
        }

        boolean isOfKind(int line, int kind) {
            return kind == 0 || kind == sort[line] + 1 || kind == LISTED + 1 && isHome(line);
        }

        boolean atOneDoor(int a, int b) {
            return street[a] == street[b] && door[a] == door[b];
        }

        boolean mayBeOne(int a, int b) {
            return names.areLike(a, b) && agesAgree(a, b) && !areTwoHomesAtOnce(a, b);
        }

        /** Which of the two is the later one makes no difference: both sides turn their sign. */
        private boolean agesAgree(int a, int b) {
            if (age[a] == NONE || age[b] == NONE) return true;
            return Math.abs((age[a] - age[b]) - (gathered[a] - gathered[b])) <= AGE_SLACK;
        }

        private boolean areTwoHomesAtOnce(int a, int b) {
            return isHome(a) && isHome(b) && gathered[a] == gathered[b] && !atOneDoor(a, b);
        }

        /** FIRST of a PERSON's STAY at the DOOR of a LINE. */
        int firstStanding(int person, int line) {
            int first = NONE;
            for (int other = 0; other < count; other++) {
                if (!standsWith(other, person, line)) continue;
                if (first == NONE || gathered[other] < first) first = gathered[other];
            }
            return first;
        }

        int lastStanding(int person, int line) {
            int last = NONE;
            for (int other = 0; other < count; other++) {
                if (standsWith(other, person, line)) last = Math.max(last, gathered[other]);
            }
            return last;
        }

        private boolean standsWith(int other, int person, int line) {
            return (person >> other & 1) == 1 && sort[other] != STALE && atOneDoor(other, line);
        }

        int countHomes() {
            int homes = 0;
            for (int line = 0; line < count; line++) {
                if (isHome(line)) homes++;
            }
            return homes;
        }

        int countOfBook(int ofBook) {
            int found = 0;
            for (int line = 0; line < count; line++) {
                if (book[line] == ofBook) found++;
            }
            return found;
        }

        int countInBoth(int a, int b) {
            int both = 0;
            for (int line = 0; line < count; line++) {
                if (book[line] == a && isFoundIn(line, b)) both++;
            }
            return both;
        }

        private boolean isFoundIn(int line, int ofBook) {
            for (int other = 0; other < count; other++) {
                if (book[other] == ofBook && names.areLike(line, other) && atOneDoor(line, other)) return true;
            }
            return false;
        }

        /** LINES of a BOOK at DOORS where no READ BOOK has one. */
        int countUnseen(int ofBook, Books books) {
            int unseen = 0;
            for (int line = 0; line < count; line++) {
                if (book[line] == ofBook && !isDoorRead(line, books)) unseen++;
            }
            return unseen;
        }

        private boolean isDoorRead(int line, Books books) {
            for (int other = 0; other < count; other++) {
                if (books.isRead[book[other]] && atOneDoor(line, other)) return true;
            }
            return false;
        }
    }

    /** Reads THE TAPE; what it tells lies behind the counts until the whole text is well. */
    private static final class Reader {
        private static final int MISPLACED = 1, NOT_AS_TOLD = 2, NO_ROOM = 3;

        private final Tape tape;
        private final Books books;
        private final Lines lines;
        private final Orders orders;
        private final Houses houses;
        private int value;
        int faultNumber;
        int faultPlace;

        Reader(Tape tape, Books books, Lines lines, Orders orders, Houses houses) {
            this.tape = tape;
            this.books = books;
            this.lines = lines;
            this.orders = orders;
            this.houses = houses;
        }

        /** False: there is a FAULT. */
        boolean readAll() {
            books.told = books.count;
            lines.told = lines.count;
            orders.told = orders.count;
            houses.told = houses.count;
            tape.rewind();
            for (int part = 0; part <= TAPE_BYTES; part++) {
                if (tape.token == Tape.END) return true;
                if (!readPart()) return false;
            }
            return true;
        }

        private boolean readPart() {
            if (tape.isWord("book")) return beginPart(books.told < BOOKS) && readBook();
            if (tape.isWord("line")) return beginPart(lines.told < LINES) && readLine();
            if (tape.isWord("order")) return beginPart(orders.told < ORDERS) && readOrder();
            if (tape.isWord("house")) return beginPart(houses.told < HOUSES) && readHouse();
            return fail(MISPLACED);
        }

        private boolean beginPart(boolean hasRoom) {
            if (!hasRoom) return fail(NO_ROOM);
            tape.step();
            return true;
        }

        private boolean readBook() {
            if (!takeNumber(1, LAST_YEAR)) return false;
            int year = value;
            if (!takeNumber(0, Math.min(LONGEST_LAG, year - 1))) return false;
            int lag = value;
            if (!takeNumber(1, MOST_PAGES)) return false;
            int pages = value;
            if (!takeSign()) return false;
            books.tell(year - lag, pages);
            return true;
        }

        private boolean readLine() {
            int line = lines.told;
            if (line < 0 || line >= LINES) return fail(NO_ROOM);
            if (!takeNumber(0, books.told - 1)) return false;
            lines.book[line] = value;
            if (!takeSort()) return false;
            lines.sort[line] = value;
            if (!takeNumber(0, STREETS - 1)) return false;
            lines.street[line] = value;
            if (!takeNumber(1, LAST_NUMBER)) return false;
            lines.number[line] = value;
            if (!takeName(line) || !takeAge()) return false;
            lines.age[line] = value;
            if (!takeSign()) return false;
            lines.told++;
            return true;
        }

        private boolean readOrder() {
            if (!takeNumber(1, LAST_YEAR)) return false;
            int year = value;
            if (!takeNumber(0, STREETS - 1)) return false;
            int street = value;
            if (!takeNumber(1, LAST_NUMBER)) return false;
            int old = value;
            if (tape.token == Tape.FIGURES && tape.number() == old) return fail(NOT_AS_TOLD);
            if (!takeNumber(1, LAST_NUMBER)) return false;
            int renewed = value;
            if (!takeSign()) return false;
            orders.tell(year, street, old, renewed);
            return true;
        }

        private boolean readHouse() {
            if (!takeNumber(0, STREETS - 1)) return false;
            int street = value;
            if (!takeNumber(1, LAST_NUMBER)) return false;
            int number = value;
            if (!takeNumber(1, LAST_YEAR)) return false;
            int from = value;
            if (!takeNumber(from + 1, YEARS_END)) return false;
            int to = value;
            if (!takeSign()) return false;
            houses.tell(street, number, from, to);
            return true;
        }

        private boolean takeNumber(int least, int most) {
            if (tape.token != Tape.FIGURES) return fail(MISPLACED);
            value = tape.number();
            if (value < least || value > most) return fail(NOT_AS_TOLD);
            tape.step();
            return true;
        }

        private boolean takeSort() {
            if (tape.isWord("listed")) value = LISTED;
            else if (tape.isWord("rated")) value = RATED;
            else if (tape.isWord("counted")) value = COUNTED;
            else if (tape.isWord("trade")) value = TRADE;
            else if (tape.isWord("stale")) value = STALE;
            else return fail(MISPLACED);
            tape.step();
            return true;
        }

        private boolean takeName(int line) {
            if (tape.token != Tape.WORD) return fail(MISPLACED);
            if (tape.letters() > NAME_LETTERS) return fail(NOT_AS_TOLD);
            lines.names.tell(line, tape);
            tape.step();
            return true;
        }

        private boolean takeAge() {
            value = NONE;
            if (!tape.isWord("age")) return true;
            tape.step();
            return takeNumber(0, OLDEST);
        }

        private boolean takeSign() {
            if (tape.token != Tape.SIGN) return fail(MISPLACED);
            tape.step();
            return true;
        }

        private boolean fail(int number) {
            faultNumber = number;
            faultPlace = tape.start;
            return false;
        }
    }

    /**
     * JOINED. A set of LINES is a number, LINE k being 2 to the power k; for each set its fewest PERSONS. To part a set
     * only sets without its least LINE are needed: so of those with LINE 0 none is parted before it is asked for.
     */
    private static final class Persons {
        private static final int NOT_PARTED = 0;

        private final Lines lines;
        private final int[] mayBe = new int[LINES];
        private final int[] personOfLine = new int[LINES];
        private final byte[] fewest = new byte[1 << LINES];
        private final int[] ways = new int[1 << LINES];
        boolean areOutdated = true;

        Persons(Lines lines) {
            this.lines = lines;
        }

        int countFewest() {
            renew();
            return fewest[all()];
        }

        int countRivals() {
            renew();
            return ways[all()];
        }

        int linesOfGreatest() {
            renew();
            int most = 0;
            for (int line = 0; line < lines.count; line++) {
                most = Math.max(most, Integer.bitCount(personOfLine[line]));
            }
            return most;
        }

        int personOf(int line) {
            renew();
            return personOfLine[line];
        }

        /** Each RIVAL with both in one PERSON is that PERSON and a way to part the rest with one PERSON less. */
        int rivalsWithBoth(int a, int b) {
            renew();
            if (a == b) return ways[all()];
            int both = 1 << a | 1 << b;
            int others = mayBe[a] & mayBe[b] & ~both;
            int sum = rivalsWith(both);
            // (more - 1) & others is below more, so the sets come to an end
            for (int more = others; more > 0; more = (more - 1) & others) sum += rivalsWith(both | more);
            return sum;
        }

        private int rivalsWith(int person) {
            if (!isOne(person)) return 0;
            int rest = all() & ~person;
            if (rest != 0 && fewest[rest] == NOT_PARTED) partSet(rest);
            return fewest[rest] + 1 == fewest[all()] ? ways[rest] : 0;
        }

        private int all() {
            return (1 << lines.count) - 1;
        }

        /** Puts the work off until it is asked for: most texts are followed by another text. */
        private void renew() {
            if (!areOutdated) return;
            areOutdated = false;
            findWhoMayBeOne();
            fewest[0] = 0;
            ways[0] = 1;
            int all = all();
            for (int set = 1; set < all; set++) {
                fewest[set] = NOT_PARTED;
                if ((set & 1) == 0) partSet(set);
            }
            if (all > 0) partSet(all);
            pickFirst();
        }

        private void findWhoMayBeOne() {
            for (int line = 0; line < lines.count; line++) {
                mayBe[line] = 0;
                for (int other = 0; other < lines.count; other++) {
                    if (lines.mayBeOne(line, other)) mayBe[line] |= 1 << other;
                }
            }
        }

        private int friendsOf(int least) {
            int line = Integer.bitCount(least - 1);
            return line < LINES ? mayBe[line] : 0;
        }

        /** Whether each two LINES of a set MAY be one. */
        private boolean isOne(int set) {
            int least = set & -set;
            int others = set & ~least;
            return (others & ~friendsOf(least)) == 0 && fewest[others] <= 1;
        }

        /** By the PERSON of the set's least LINE, so that each parting counts once; sets without that LINE are done. */
        private void partSet(int set) {
            int least = set & -set;
            int others = set & ~least;
            int friends = others & friendsOf(least);
            boolean isOne = friends == others && fewest[others] <= 1;
            int parts = isOne ? 1 : fewest[others] + 1;
            int sum = isOne ? 1 : ways[others];
            // (more - 1) & friends is below more, so the sets come to an end
            for (int more = isOne ? 0 : friends; more > 0; more = (more - 1) & friends) {
                if (fewest[more] > 1) continue;
                int rest = others & ~more;
                if (fewest[rest] + 1 < parts) {
                    parts = fewest[rest] + 1;
                    sum = 0;
                }
                if (fewest[rest] + 1 == parts) sum += ways[rest];
            }
            fewest[set] = (byte) parts;
            ways[set] = sum;
        }

        private void pickFirst() {
            int left = all();
            for (int k = 0; k < LINES && left != 0; k++) {
                int person = leastPerson(left);
                for (int line = 0; line < lines.count; line++) {
                    if ((person >> line & 1) == 1) personOfLine[line] = person;
                }
                left &= ~person;
            }
        }

        private int leastPerson(int left) {
            int least = left & -left;
            for (int person = least; person < left; person++) {
                if ((person & least) == 0 || (person & ~left) != 0) continue;
                if (fewest[left & ~person] + 1 == fewest[left] && isOne(person)) return person;
            }
            return left;
        }
    }

    /** A LOST ORDER; most[b][a] is how many pairs there can be from BEFORE b and AFTER a on. */
    private static final class LostOrder {
        private final Lines lines;
        private final int[] before = new int[LINES];
        private final int[] after = new int[LINES];
        private final int[][] most = new int[LINES + 1][LINES + 1];
        int befores;
        int afters;
        private int pairBefore;
        private int pairAfter;

        LostOrder(Lines lines) {
            this.lines = lines;
        }

        void lookAt(int street, int from, int to) {
            befores = pick(before, street, from);
            afters = pick(after, street, to);
            for (int b = befores; b >= 0; b--) {
                for (int a = afters; a >= 0; a--) most[b][a] = mostFrom(b, a);
            }
        }

        /** Stops at a like number, so that of one number the LINE told first stays first. */
        private int pick(int[] row, int street, int year) {
            int picked = 0;
            for (int line = 0; line < lines.count; line++) {
                if (lines.street[line] != street || lines.gathered[line] != year) continue;
                int at = picked;
                while (at > 0 && lines.number[row[at - 1]] > lines.number[line]) {
                    row[at] = row[at - 1];
                    at--;
                }
                row[at] = line;
                picked++;
            }
            return picked;
        }

        private int mostFrom(int b, int a) {
            if (b == befores || a == afters) return 0;
            int without = Math.max(most[b + 1][a], most[b][a + 1]);
            return canPair(b, a) ? Math.max(without, most[b + 1][a + 1] + 1) : without;
        }

        private boolean canPair(int b, int a) {
            return lines.names.areLike(before[b], after[a]);
        }

        int kept() {
            return most[0][0];
        }

        /** The LINE of a pair of FOUND, of which there must be so many. */
        int lineOfPair(int pair, boolean isBefore) {
            pairBefore = -1;
            pairAfter = -1;
            for (int k = 0; k <= pair; k++) stepToPair(pairBefore + 1, pairAfter + 1);
            if (pairBefore < 0 || pairBefore >= befores || pairAfter < 0 || pairAfter >= afters) return NONE;
            return isBefore ? before[pairBefore] : after[pairAfter];
        }

        private void stepToPair(int fromBefore, int fromAfter) {
            for (int b = fromBefore; b < befores; b++) {
                for (int a = fromAfter; a < afters; a++) {
                    if (canPair(b, a) && most[b + 1][a + 1] + 1 == most[fromBefore][fromAfter]) {
                        pairBefore = b;
                        pairAfter = a;
                        return;
                    }
                }
            }
        }
    }

    /** ASKS by BODIES, and THE TRACE of those that began. */
    private static final class Asks {
        private static final int TRACE_ROOM = 16;

        private final Lines lines;
        final int[] bodies = new int[TRACE_ROOM];
        int traced;

        Asks(Lines lines) {
            this.lines = lines;
        }

        int sizeOf(int line) {
            switch (lines.sort[line]) {
                case LISTED: return homeSize(line);
                case RATED: return ratedSize(line);
                case COUNTED: return countedSize(line);
                case STALE: return staleSize(line);
                default: return lentSize(line);
            }
        }

        int markOf(int line) {
            switch (lines.sort[line]) {
                case LISTED: return homeMark(line);
                case RATED: return homeMark(line);
                case COUNTED: return countedMark(line);
                case TRADE: return tradeMark(line);
                default: return lentMark(line);
            }
        }

        private int lentSize(int line) {
            begin(10);
            return lines.names.length[line];
        }

        private int homeSize(int line) {
            begin(11);
            return lentSize(line) + lines.number[line];
        }

        private int ratedSize(int line) {
            begin(12);
            return 2 * homeSize(line);
        }

        /** MARK asked of the same LINE anew begins with the BODY of COUNTED ones. */
        private int countedSize(int line) {
            begin(13);
            int asHome = homeSize(line);
            return asHome + countedMark(line);
        }

        private int staleSize(int line) {
            begin(14);
            return -lentSize(line);
        }

        private int lentMark(int line) {
            begin(20);
            return lines.gathered[line];
        }

        private int homeMark(int line) {
            begin(21);
            return lentMark(line) + lines.street[line];
        }

        private int countedMark(int line) {
            begin(22);
            return homeMark(line) + (lines.age[line] == NONE ? 0 : lines.age[line]);
        }

        /** SIZE asked of the same LINE anew begins with the lent BODY: TRADES have none of their own. */
        private int tradeMark(int line) {
            begin(23);
            int lent = lentMark(line);
            return lent + lentSize(line);
        }

        private void begin(int body) {
            if (traced < TRACE_ROOM) bodies[traced++] = body;
        }
    }
}
