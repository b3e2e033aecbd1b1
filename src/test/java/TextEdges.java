/** Boundary cases of THE TAPE and of texts: promises 6 to 8, and the part of the terms that tells TEXTS and FAULTS. */
final class TextEdges {
    private static final String BOOK = "book 50 0 1;";

    private final Edge edge;

    TextEdges(Edge edge) {
        this.edge = edge;
    }

    void run() {
        lowestBytes();
        tapeIsFull();
        feedRefuses();
        readsTheTape();
        emptyThen();
        nothingComes();
        faultNumber();
        yearsOfTexts();
        streetsAndNumbers();
        lags();
        pages();
        letters();
        ages();
        houseYears();
        numbersOfFourFigures();
        bytesBetween();
        textOfNone();
        wordsThatCannotStandThere();
        sortsThatCannotStandThere();
        ageIsLeftOut();
        behindWhatThereIs();
        booksOfTheText();
        firstFault();
        leastFault();
        theEnd();
        bytesThatAreNoToken();
        bookNotToldYet();
        lagIsTheYear();
        oldAndNewAlike();
        longNames();
        roomForBooks();
        roomForLines();
        roomForOrders();
        roomForHouses();
    }

    private static String blanks(int n) {
        return " ".repeat(n);
    }

    // ---- promise 6

    private void lowestBytes() {
        edge.sentence(6, "The lowest n bytes of w (1 to 8), the highest of them first, come behind the tape: how many it has.");
        for (int n = 1; n <= 8; n++) {
            DoorsBook x = new DoorsBook();
            String text = BOOK + blanks(n);
            long above = n == 8 ? 0 : 0xa5a5a5a5a5a5a5a5L << 8 * n;
            for (int at = 0; at + n <= text.length(); at += n) {
                long w = Check.asLong(text.substring(at, at + n)) | above;
                edge.due("feed by " + n, x.feed(w, n), at + n);
            }
            edge.due("read", x.read(), 0);
            edge.due("the BOOK came", x.count(1), 1);
        }
        DoorsBook x = new DoorsBook();
        edge.due("all bits", x.feed(-1L, 8), 8);
        edge.due("all bits", x.feed(Long.MIN_VALUE, 8), 16);
        edge.due("all bits", x.feed(Long.MAX_VALUE, 1), 17);
        edge.due("how many", x.count(7), 17);
    }

    private void tapeIsFull() {
        edge.sentence(Edge.TERMS, "TEXTS: THE TAPE has at most 600 bytes");
        for (int n = 1; n <= 8; n++) {
            DoorsBook x = new DoorsBook();
            Check.feed(x, BOOK + blanks(600 - n - BOOK.length()));
            edge.due("so far", x.count(7), 600 - n);
            if (n < 8) edge.due("one more than fits", x.feed(Check.asLong(blanks(n + 1)), n + 1), Edge.FULL);
            edge.due("none of them came", x.count(7), 600 - n);
            edge.due("as many as fit", x.feed(Check.asLong(blanks(n)), n), 600);
            edge.due("one more", x.feed(32, 1), Edge.FULL);
            edge.due("eight more", x.feed(32, 8), Edge.FULL);
            edge.due("all of it is read", x.read(), 0);
            edge.due("the BOOK came", x.count(1), 1);
            edge.due("there is room again", x.feed(32, 1), 1);
        }
        edge.faulty(blanks(599) + "x", 599, 1);
        edge.faulty("book" + blanks(596), 600, 1);
        DoorsBook y = new DoorsBook();
        edge.tell(y, blanks(588) + BOOK);
        edge.due("a text up to the last byte", y.count(1), 1);
    }

    private void feedRefuses() {
        edge.sentence(6, "BAD: n; FULL: none comes.");
        DoorsBook x = new DoorsBook();
        for (int bad : Edge.ints(0, -1, 9, Edge.MAX, Edge.MIN)) edge.due("n", x.feed(32, bad), Edge.BAD);
        edge.due("none came", x.count(7), 0);
        Check.feed(x, blanks(599));
        edge.due("FULL", x.feed(0x2020, 2), Edge.FULL);
        edge.due("none came", x.count(7), 599);
        edge.due("one", x.feed(0x20, 1), 600);
        edge.due("FULL", x.feed(0x78, 1), Edge.FULL);
        for (int bad : Edge.ints(0, -1, 9, Edge.MAX, Edge.MIN)) edge.due("n, ahead of FULL", x.feed(32, bad), Edge.BAD);
        edge.due("only blanks came", x.read(), 0);
    }

    // ---- promises 7 and 8

    private void readsTheTape() {
        edge.sentence(7, "The tape, empty then, is read: how many LINES there are.");
        DoorsBook x = new DoorsBook();
        edge.due("an empty tape", x.read(), 0);
        edge.due("again", x.read(), 0);
        Check.feed(x, BOOK + "line 0 trade 0 1 a;".repeat(11));
        edge.due("bytes", x.count(7), 221);
        edge.due("eleven LINES", x.read(), 11);
        edge.due("empty then", x.count(7), 0);
        edge.due("LINES of all texts", Check.tell(x, "line 0 trade 0 1 a;"), 12);
        edge.due("a text without LINES", Check.tell(x, BOOK), 12);
        edge.due("an empty tape", x.read(), 12);
        edge.due("a FAULT", Check.tell(x, "x"), -1000100);
        edge.due("empty then, too", x.count(7), 0);
        edge.due("an empty tape", x.read(), 12);
    }

    /** Bytes of a longer text ahead do not stand behind a shorter one. */
    private void emptyThen() {
        edge.sentence(7, "The tape, empty then, is read");
        DoorsBook x = edge.told("book 50 0 19;book 50 0 1;line 0 trade 0 1 abcdef;");
        edge.faulty(x, "book 50 0 1", 11, 1);
        edge.faulty(x, "book 50 0 1;;", 12, 1);
        edge.faulty(x, "book 50 0 1", 11, 1);
        edge.faulty(x, "bo", 0, 1);
        edge.faulty(x, "book", 4, 1);
        edge.faulty(x, "books", 0, 1);
        edge.faulty(x, "book", 4, 1);
        edge.faulty(x, "book 50 0 12345", 10, 1);
        edge.faulty(x, "book 50 0 99", 12, 1);
        edge.due("an empty tape", x.read(), 1);
    }

    private void nothingComes() {
        edge.sentence(7, "-1000100 less the place of a FAULT: nothing comes.");
        String well = BOOK + "line 0 trade 0 1 a;order 9 0 1 2;house 0 1 8 9;";
        DoorsBook x = new DoorsBook();
        for (int round = 0; round < 2; round++) {
            edge.faulty(x, well + "x", well.length(), 1);
            edge.row("nothing", Edge.of(x.count(1), x.count(2), x.count(3), x.count(4), x.count(7), x.today(0, 1, 1)),
                round, round, round, round, 0, round == 0 ? 1 : 2);
            if (round == 0) edge.tell(x, well);
        }
        edge.faulty(x, "#", 0, 1);
        edge.faulty(x, "line 1 trade 0 1 a;", 5, 2);
        edge.due("the LINE is as it was", x.line(0, 8), 1);
    }

    private void faultNumber() {
        edge.sentence(8, "The number of the latest FAULT; 0 before one.");
        DoorsBook x = new DoorsBook();
        edge.due("before one", x.fault(), 0);
        edge.tell(x, BOOK.repeat(10));
        edge.due("still before one", x.fault(), 0);
        edge.faulty(x, "book", 0, 3);
        edge.tell(x, "");
        edge.due("a text that is well does not change it", x.fault(), 3);
        edge.faulty(x, "line 10", 5, 2);
        edge.due("nor does what is refused", x.feed(0, 0), Edge.BAD);
        edge.due("so", x.fault(), 2);
        edge.faulty(x, "x", 0, 1);
        edge.due("status is not of texts", x.status(), 0);
    }

    // ---- what NUMBERS may be

    /** The NUMBER between these words may be least to most and nothing else. */
    private void limits(String ahead, int least, int most, String behind) {
        edge.tell(new DoorsBook(), ahead + least + behind);
        edge.tell(new DoorsBook(), ahead + most + behind);
        if (least > 0) edge.faulty(ahead + (least - 1) + behind, ahead.length(), 2);
        edge.faulty(ahead + (most + 1) + behind, ahead.length(), most < 9999 ? 2 : 1);
        if (most < 9999) edge.faulty(ahead + 9999 + behind, ahead.length(), 2);
        edge.faulty(ahead + "-1" + behind, ahead.length(), 1);
    }

    private void yearsOfTexts() {
        edge.sentence(Edge.TERMS, "Years are 1 to 9998.");
        limits("book ", 1, 9998, " 0 1;");
        limits("order ", 1, 9998, " 0 1 2;");
        limits("house 0 1 ", 1, 9998, " 9999;");
    }

    private void streetsAndNumbers() {
        edge.sentence(Edge.TERMS, "STREETS 0 .. 3; numbers of doors 1 to 99.");
        limits(BOOK + "line 0 trade ", 0, 3, " 1 a;");
        limits("order 9 ", 0, 3, " 1 2;");
        limits("house ", 0, 3, " 1 8 9;");
        limits(BOOK + "line 0 trade 0 ", 1, 99, " a;");
        limits("order 9 0 ", 1, 99, " 50;");
        limits("order 9 0 50 ", 1, 99, ";");
        limits("house 0 ", 1, 99, " 8 9;");
    }

    private void lags() {
        edge.sentence(Edge.TERMS, "a year, a LAG (0 to 9): its GATHERED is the year less the LAG");
        limits("book 50 ", 0, 9, " 1;");
        for (int lag = 0; lag < 10; lag += 9) {
            DoorsBook x = edge.told("book 9998 " + lag + " 1;line 0 trade 0 1 a;");
            edge.due("GATHERED", x.line(0, 5), 9998 - lag);
        }
        DoorsBook y = edge.told("book 10 9 1;line 0 trade 0 1 a;");
        edge.due("the least GATHERED", y.line(0, 5), 1);
    }

    private void pages() {
        edge.sentence(Edge.TERMS, "PAGES (1 to 99).");
        limits("book 50 0 ", 1, 99, ";");
    }

    private void letters() {
        edge.sentence(Edge.TERMS, "a NAME (1 to 8 letters)");
        String ahead = BOOK + "line 0 trade 0 1 ";
        for (int n = 1; n <= 8; n++) {
            DoorsBook x = edge.told(ahead + "abcdefgh".substring(0, n) + ";");
            edge.due("letters", x.line(0, 8), n);
        }
        edge.faulty(ahead + ";", ahead.length(), 1);
        edge.faulty(ahead + "abcdefghi;", ahead.length(), 2);
        edge.sentence(Edge.TERMS, "TOKENS: NAMES (letters a to z)");
        DoorsBook z = edge.told(ahead + "az;line 0 trade 0 1 za;");
        edge.row("a and z are letters", Edge.of(z.ear(0), z.ear(1)), 200, 25000);
        for (char beside : "`{AZ".toCharArray()) edge.faulty(ahead + "a" + beside + ";", ahead.length() + 1, 1);
    }

    private void ages() {
        edge.sentence(Edge.TERMS, "an age (0 to 120) or none (NONE).");
        limits(BOOK + "line 0 trade 0 1 a age ", 0, 120, ";");
        DoorsBook x = edge.told(BOOK + "line 0 trade 0 1 a age 0;line 0 trade 0 1 a age 120;line 0 trade 0 1 a;");
        edge.row("ages", Edge.of(x.line(0, 4), x.line(1, 4), x.line(2, 4)), 0, 120, Edge.NONE);
    }

    private void houseYears() {
        edge.sentence(Edge.TERMS, "(STREET, number, from, to: above it, 9999 at most)");
        limits("house 0 1 1 ", 2, 9999, ";");
        limits("house 0 1 50 ", 51, 9999, ";");
        limits("house 0 1 9998 ", 9999, 9999, ";");
        edge.faulty("house 0 1 50 50;", 13, 2);
        edge.faulty("house 0 1 50 1;", 13, 2);
    }

    private void numbersOfFourFigures() {
        edge.sentence(Edge.TERMS, "NUMBERS (figures, 4 at most)");
        DoorsBook x = edge.told("book 0050 0000 0001;line 0000 trade 0003 0099 a age 0120;");
        edge.row("0s ahead count as figures", Edge.of(x.line(0, 2), x.line(0, 3), x.line(0, 4), x.line(0, 5)), 3, 99, 120, 50);
        edge.faulty("book 00050 0 1;", 5, 1);
        edge.faulty("book 50 00000 1;", 8, 1);
        edge.faulty("book 50 0 00001;", 10, 1);
        edge.faulty("book 4294967346 0 1;", 5, 1);
        edge.faulty("book 18446744073709551666 0 1;", 5, 1);
        for (char beside : "/:".toCharArray()) edge.faulty("book 5" + beside + " 0 1;", 6, 1);
    }

    // ---- TOKENS

    private void bytesBetween() {
        edge.sentence(Edge.TERMS, "SIGNS ; bytes 32 and 10 between.");
        edge.tell(new DoorsBook(), "\n \nbook\n50\n \n0  1\n;\n");
        edge.tell(new DoorsBook(), "book50 0 1;line0trade0 1a;");
        for (char no : new char[] {0, 9, 11, 13, 31, 33, 160}) {
            edge.faulty(no + BOOK, 0, 1);
            edge.faulty("book" + no + "50 0 1;", 4, 1);
            edge.faulty(BOOK + no, BOOK.length(), 1);
        }
    }

    private void textOfNone() {
        edge.sentence(Edge.TERMS, "text: { 'book' NUMBER NUMBER NUMBER ';' (year, LAG, PAGES)");
        edge.tell(new DoorsBook(), "");
        edge.tell(new DoorsBook(), " ");
        edge.tell(new DoorsBook(), "\n");
        edge.tell(new DoorsBook(), blanks(600));
        String[] parts = {"book", "50", "0", "1", ";"};
        for (int k = 0; k < parts.length; k++) cannotStandAt("", parts, k);
    }

    private void wordsThatCannotStandThere() {
        edge.sentence(Edge.TERMS, "'order' NUMBER NUMBER NUMBER NUMBER ';' (year, STREET, old, new)");
        String[] order = {"order", "50", "0", "1", "2", ";"};
        for (int k = 0; k < order.length; k++) cannotStandAt("", order, k);
        edge.sentence(Edge.TERMS, "'house' NUMBER NUMBER NUMBER NUMBER ';'");
        String[] house = {"house", "0", "1", "8", "9", ";"};
        for (int k = 0; k < house.length; k++) cannotStandAt("", house, k);
        edge.sentence(Edge.TERMS, "'line' NUMBER sort NUMBER NUMBER NAME [ 'age' NUMBER ] ';' (BOOK, STREET, number)");
        String[] line = {"line", "0", "trade", "0", "1", "lee", "age", "5", ";"};
        for (int k = 0; k < line.length; k++) cannotStandAt(BOOK, line, k);
    }

    /** TOKENS of every other sort, in place of part k, are FAULT 1; and so is the end, but where a text may end. */
    private void cannotStandAt(String ahead, String[] parts, int k) {
        StringBuilder soFar = new StringBuilder(ahead);
        for (int part = 0; part < k; part++) soFar.append(parts[part]).append(' ');
        int place = soFar.length();
        boolean isName = parts[k].equals("lee");
        for (String other : new String[] {"x", "books", "boo", "xook", "brder", "hoose", "linf", "abcdefghi", "7", "12345", ";", "#", "" + (char) 200}) {
            boolean isLikeIt = sortOf(other) == sortOf(parts[k]) && sortOf(other) != 'w' || isName && sortOf(other) == 'w';
            boolean endsALine = parts[k].equals("age") && other.equals(";");
            if (!isLikeIt && !endsALine) edge.faulty(soFar + other + " ;", place, 1);
        }
        if (k > 0) edge.faulty(soFar.toString(), place, 1);
    }

    private static char sortOf(String token) {
        if (token.matches("[a-z]+")) return 'w';
        return token.matches("[0-9]{1,4}") ? 'n' : token.equals(";") ? ';' : '#';
    }

    private void sortsThatCannotStandThere() {
        edge.sentence(Edge.TERMS, "sort: 'listed' | 'rated' | 'counted' | 'trade' | 'stale'.");
        String[] sorts = {"listed", "rated", "counted", "trade", "stale"};
        for (int sort = 0; sort < sorts.length; sort++) {
            DoorsBook x = edge.told(BOOK + "line 0 " + sorts[sort] + " 0 1 a;");
            edge.due("SORT", x.line(0, 1), sort);
            edge.faulty(BOOK + "line 0 " + sorts[sort] + "s 0 1 a;", 19, 1);
            edge.faulty(BOOK + "line 0 " + sorts[sort].substring(1) + " 0 1 a;", 19, 1);
            edge.faulty(BOOK + "line 0 " + sorts[sort].substring(0, sorts[sort].length() - 1) + " 0 1 a;", 19, 1);
        }
    }

    private void ageIsLeftOut() {
        edge.sentence(Edge.TERMS, "[ 'age' NUMBER ]");
        String ahead = BOOK + "line 0 trade 0 1 ";
        DoorsBook x = edge.told(ahead + "age;line 0 trade 0 1 age age 7;line 0 trade 0 1 line;");
        edge.row("'age' as a NAME", Edge.of(x.line(0, 8), x.line(0, 4), x.line(1, 8), x.line(1, 4)), 3, Edge.NONE, 3, 7);
        edge.faulty(ahead + "a ages 7;", ahead.length() + 2, 1);
        edge.faulty(ahead + "a 7;", ahead.length() + 2, 1);
        edge.faulty(ahead + "a age 7 age 7;", ahead.length() + 8, 1);
        edge.faulty(ahead + "a age age 7;", ahead.length() + 6, 1);
    }

    // ---- what comes, and when

    private void behindWhatThereIs() {
        edge.sentence(Edge.TERMS, "All come behind what there is, when all is read");
        DoorsBook x = edge.told(BOOK + "line 0 trade 1 11 a;");
        edge.tell(x, "book 60 0 2;line 1 stale 2 22 ab;line 0 rated 3 33 abc;");
        edge.row("the first LINE", Edge.of(x.line(0, 0), x.line(0, 1), x.line(0, 3), x.line(0, 8)), 0, 3, 11, 1);
        edge.row("the second LINE", Edge.of(x.line(1, 0), x.line(1, 1), x.line(1, 3), x.line(1, 8)), 1, 4, 22, 2);
        edge.row("the third LINE", Edge.of(x.line(2, 0), x.line(2, 1), x.line(2, 3), x.line(2, 8)), 0, 1, 33, 3);
        DoorsBook y = new DoorsBook();
        Check.feed(y, BOOK);
        edge.due("not read yet", y.count(1), 0);
        edge.due("read", y.read(), 0);
        edge.due("now", y.count(1), 1);
    }

    private void booksOfTheText() {
        edge.sentence(Edge.TERMS, "(BOOKS of the text count for its lines behind them)");
        DoorsBook x = edge.told(BOOK + "line 0 trade 0 1 a;book 60 0 1;line 1 trade 0 1 a;");
        edge.row("their BOOKS", Edge.of(x.line(0, 0), x.line(1, 0)), 0, 1);
        edge.faulty(BOOK + "line 1 trade 0 1 a;book 60 0 1;", 17, 2);
        edge.faulty(x, "line 2 trade 0 1 a;book 70 0 1;", 5, 2);
        edge.tell(x, "book 70 0 1;line 2 trade 0 1 a;");
        edge.due("told ahead of it", x.line(2, 5), 70);
    }

    // ---- FAULTS

    private void firstFault() {
        edge.sentence(Edge.TERMS, "FAULTS, the first TOKEN that has one (its first byte)");
        edge.faulty("book 0 10 0 x", 5, 2);
        edge.faulty("book 50 10 0 x", 8, 2);
        edge.faulty("book 50 9 0 x", 10, 2);
        edge.faulty("book 50 9 1 x", 12, 1);
        edge.faulty(" \n book   9999 0 1;", 10, 2);
        edge.faulty("   books", 3, 1);
        edge.faulty(BOOK + "line 0 trade 0 1   abcdefghi;", 31, 2);
    }

    private void leastFault() {
        edge.sentence(Edge.TERMS, "of one TOKEN the least: 1 it cannot stand there, or is none");
        edge.faulty("abcdefghi", 0, 1);
        edge.faulty(BOOK + "line 0 abcdefghi", 19, 1);
        edge.faulty(BOOK + "line 0 trade 0 1 a abcdefghi", 31, 1);
        edge.faulty("order 50 0 1 00001;", 13, 1);
        edge.faulty(BOOK + "9999", 12, 1);
        DoorsBook full = edge.told(BOOK.repeat(10));
        edge.faulty(full, "order book", 6, 1);
        edge.faulty(full, "line 10 book", 5, 2);
        edge.faulty(full, "line 9 book", 7, 1);
    }

    private void theEnd() {
        edge.sentence(Edge.TERMS, "(the end: how many bytes there are)");
        edge.faulty("book", 4, 1);
        edge.faulty("book \n", 6, 1);
        edge.faulty("book 50 0 1", 11, 1);
        edge.faulty("book 50 0 1" + blanks(589), 600, 1);
        edge.faulty(BOOK + "line 0 trade 0 1 a", 30, 1);
        edge.faulty(BOOK + "line 0 trade 0 1 a age  ", 36, 1);
    }

    private void bytesThatAreNoToken() {
        edge.sentence(Edge.TERMS, "or is none");
        for (int no = 0; no < 256; no++) {
            boolean isToken = no >= 'a' && no <= 'z' || no >= '0' && no <= '9' || no == ';';
            if (isToken || no == 32 || no == 10) continue;
            edge.faulty(BOOK + (char) no, BOOK.length(), 1);
        }
    }

    private void bookNotToldYet() {
        edge.sentence(Edge.TERMS, "2 a NUMBER that is not as told (a BOOK that is not told yet;");
        edge.faulty("line 0 trade 0 1 a;", 5, 2);
        edge.faulty(BOOK.repeat(3) + "line 3 trade 0 1 a;", 41, 2);
        edge.faulty(BOOK.repeat(10) + "line 10 trade 0 1 a;", 125, 2);
        edge.tell(new DoorsBook(), BOOK.repeat(10) + "line 9 trade 0 1 a;");
        DoorsBook x = edge.told(BOOK);
        edge.faulty(x, BOOK + "line 2", 17, 2);
        edge.faulty(x, "line 1 trade 0 1 a;", 5, 2);
    }

    private void lagIsTheYear() {
        edge.sentence(Edge.TERMS, "a LAG that is the year or more;");
        for (int year = 1; year <= 9; year++) {
            edge.tell(new DoorsBook(), "book " + year + " " + (year - 1) + " 1;");
            edge.faulty("book " + year + " " + year + " 1;", 7, 2);
            edge.faulty("book " + year + " 9 1;", 7, 2);
        }
        edge.tell(new DoorsBook(), "book 10 9 1;");
        edge.faulty("book 10 10 1;", 8, 2);
    }

    private void oldAndNewAlike() {
        edge.sentence(Edge.TERMS, "old and new alike: the new one)");
        for (int number : Edge.ints(1, 5, 9)) {
            edge.faulty("order 50 0 " + number + " " + number + ";", 13, 2);
            edge.faulty("order 50 0 " + number + " 000" + number + ";", 13, 2);
        }
        edge.faulty("order 50 0 99 99;", 14, 2);
        edge.faulty("order 50 0 100 100;", 11, 2);
        edge.tell(new DoorsBook(), "order 50 0 98 99;order 50 0 99 98;");
    }

    private void longNames() {
        edge.sentence(Edge.TERMS, "a NAME of more than 8 letters;");
        String ahead = BOOK + "line 0 trade 0 1 ";
        edge.tell(new DoorsBook(), ahead + "zzzzzzzz;");
        edge.faulty(ahead + "zzzzzzzzz;", 29, 2);
        edge.faulty(ahead + "z".repeat(571), 29, 2);
    }

    // ---- FAULT 3

    private void roomForBooks() {
        edge.sentence(Edge.TERMS, "3 a BOOK, LINE, ORDER, HOUSE more than there is room for (its first word).");
        edge.faulty(BOOK.repeat(10) + " book 50 0 1;", 121, 3);
        edge.sentence(Edge.TERMS, "BOOKS 0 .. 9, as they are told");
        DoorsBook x = edge.told(BOOK.repeat(9));
        edge.faulty(x, BOOK.repeat(2), 12, 3);
        edge.due("none of the two came", x.count(1), 9);
        edge.tell(x, BOOK);
        edge.due("ten", x.count(1), 10);
        edge.faulty(x, "\nbook", 1, 3);
        edge.faulty(x, "book 0 x", 0, 3);
        edge.faulty(x, "bookx", 0, 1);
        edge.due("still ten", x.count(1), 10);
        edge.due("the last", x.leaf(9, 0), 0);
        edge.due("no more", x.leaf(10, 0), Edge.BAD);
    }

    private void roomForLines() {
        edge.sentence(Edge.TERMS, "LINES 0 .. 11, as they are told");
        String line = "line 0 trade 0 1 a;";
        edge.faulty(BOOK + line.repeat(13), 240, 3);
        DoorsBook x = edge.told(BOOK + line.repeat(11));
        edge.faulty(x, line + line, 19, 3);
        edge.due("none of the two came", x.count(2), 11);
        edge.tell(x, line);
        edge.due("twelve", x.count(2), 12);
        edge.faulty(x, line, 0, 3);
        edge.faulty(x, "line 7 x", 0, 3);
        edge.due("the last", x.kind(11), 4);
        edge.due("no more", x.kind(12), Edge.BAD);
    }

    private void roomForOrders() {
        edge.sentence(Edge.TERMS, "ORDERS, as they are told (20 at most)");
        String order = "order 50 0 1 2;";
        edge.faulty(order.repeat(21), 300, 3);
        DoorsBook x = edge.told(order.repeat(19));
        edge.faulty(x, order + order, 15, 3);
        edge.due("none of the two came", x.count(3), 19);
        edge.tell(x, "order 50 0 2 3;");
        edge.due("twenty", x.count(3), 20);
        edge.due("the last", x.today(0, 2, 49), 3);
        edge.faulty(x, order, 0, 3);
        edge.faulty(x, "order 0 x", 0, 3);
    }

    private void roomForHouses() {
        edge.sentence(Edge.TERMS, "HOUSES, as they are told (20 at most)");
        String house = "house 0 1 8 9;";
        edge.faulty(house.repeat(21), 280, 3);
        DoorsBook x = edge.told(house.repeat(19) + BOOK + "line 0 trade 0 7 a;");
        edge.faulty(x, house + house, 14, 3);
        edge.due("none of the two came", x.count(4), 19);
        edge.due("no HOUSE there", x.line(0, 7), 0);
        edge.tell(x, "house 0 7 8 9;");
        edge.due("twenty", x.count(4), 20);
        edge.due("the last", x.line(0, 7), 1);
        edge.faulty(x, house, 0, 3);
        edge.faulty(x, "house 9 x", 0, 3);
    }
}
