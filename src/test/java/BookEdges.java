/** Boundary cases of LOST ORDERS and BOOKS: promises 19 to 24. */
final class BookEdges {
    private static final int[] NO_STREETS = {-1, 4, Edge.MAX, Edge.MIN}, NO_YEARS = {-1, 10000, Edge.MAX, Edge.MIN};
    private static final String BOOKS = "book 50 0 1;book 60 0 1;";

    private final Edge edge;

    BookEdges(Edge edge) {
        this.edge = edge;
    }

    void run() {
        lostOfNoneAndAll();
        beforeAndAfter();
        noneCrossing();
        lostRefuses();
        foundOfSoMany();
        foundRefuses();
        theWayFound();
        missingOfNone();
        bothOfTheFirst();
        guessedIsCut();
        missingRefuses();
        shownYears();
        shownRefuses();
        leafTellsWhatItWas();
        leafRefuses();
        nextOfAll();
        nextByPages();
        nextOfSeveral();
        nextAtDoors();
    }

    private static long[] lost(DoorsBook x, int street, int from, int to) {
        return Edge.of(x.lost(street, from, to, 0), x.lost(street, from, to, 1), x.lost(street, from, to, 2));
    }

    /** All pairs of FOUND between 50 and 60, by two calls each. */
    private long[] pairs(DoorsBook x) {
        int kept = x.lost(0, 50, 60, 0);
        long[] all = new long[2 * kept];
        for (int k = 0; k < all.length; k++) all[k] = x.found(0, 50, 60, k / 2, k % 2);
        edge.row("no pair behind", Edge.of(x.found(0, 50, 60, kept, 0), x.found(0, 50, 60, kept, 1)), Edge.NONE, Edge.NONE);
        return all;
    }

    // ---- promise 19

    private void lostOfNoneAndAll() {
        edge.sentence(19, "KEPT of a LOST ORDER (what = 0); how many are BEFORE (1), AFTER (2).");
        edge.row("nothing told", lost(new DoorsBook(), 0, 50, 60), 0, 0, 0);
        DoorsBook x = edge.told(BOOKS + "line 0 trade 0 1 lee;".repeat(6) + "line 1 trade 0 1 lee;".repeat(6));
        edge.row("six and six", lost(x, 0, 50, 60), 6, 6, 6);
        edge.row("one year twice", lost(x, 0, 50, 50), 6, 6, 6);
        edge.row("none AFTER", lost(x, 0, 50, 61), 0, 6, 0);
        edge.row("none BEFORE", lost(x, 0, 49, 60), 0, 0, 6);
        edge.row("another STREET", lost(x, 3, 50, 60), 0, 0, 0);
        DoorsBook y = edge.told(BOOKS + "line 0 trade 0 1 lee;".repeat(12));
        edge.row("twelve with themselves", lost(y, 0, 50, 50), 12, 12, 12);
        edge.row("twelve and none", lost(y, 0, 50, 60), 0, 12, 0);
        DoorsBook z = edge.told(BOOKS + "line 0 trade 0 1 lee;" + "line 1 trade 0 1 lee;".repeat(11));
        edge.row("each one once at most", lost(z, 0, 50, 60), 1, 1, 11);
    }

    private void beforeAndAfter() {
        edge.sentence(Edge.TERMS, "A LOST ORDER of a STREET between two years: BEFORE, AFTER: its LINES with GATHERED the first, the second one, by their own numbers, of one number as they were told.");
        DoorsBook x = edge.told("book 52 2 1;book 60 0 1;line 0 trade 0 9 baker;line 0 stale 0 1 lee;line 0 rated 0 5 cole;"
            + "line 1 trade 0 1 lee;line 1 trade 0 2 cole;line 1 trade 0 3 baker;order 55 0 1 99;order 55 0 9 1;");
        edge.row("by their own numbers, not those of today", pairs(x), 1, 3, 2, 4, 0, 5);
        edge.row("by GATHERED, not by the year", lost(x, 0, 52, 60), 0, 0, 3);
        DoorsBook y = edge.told(BOOKS + "line 0 trade 0 7 lee;line 0 trade 0 7 cole;line 1 trade 0 7 lee;line 1 trade 0 7 cole;");
        edge.row("of one number as told", pairs(y), 0, 2, 1, 3);
        DoorsBook z = edge.told(BOOKS + "line 0 trade 0 7 lee;line 0 trade 0 7 cole;line 1 trade 0 7 cole;line 1 trade 0 7 lee;");
        edge.row("of one number as told, crossing", pairs(z), 0, 3);
        DoorsBook u = edge.told(BOOKS + "line 0 trade 0 99 lee;line 0 trade 0 1 cole;line 1 trade 0 99 lee;line 1 trade 0 1 cole;");
        edge.row("1 ahead of 99", pairs(u), 1, 3, 0, 2);
    }

    private void noneCrossing() {
        edge.sentence(Edge.TERMS, "KEPT: as many pairs of a BEFORE and an AFTER one with LIKE NAMES as can be, none crossing "
            + "(each one once at most, the next pair behind in both).");
        DoorsBook x = edge.told(BOOKS + "line 0 trade 0 1 lee;line 0 trade 0 2 baker;line 1 trade 0 1 baker;line 1 trade 0 2 lee;");
        edge.due("crossing", x.lost(0, 50, 60, 0), 1);
        DoorsBook y = edge.told(BOOKS + "line 0 trade 0 1 lee;line 0 trade 0 2 lea;line 1 trade 0 1 lee;");
        edge.due("one AFTER for two BEFORE", y.lost(0, 50, 60, 0), 1);
        DoorsBook z = edge.told(BOOKS + "line 0 trade 0 1 lee;line 1 trade 0 1 baker;");
        edge.due("no LIKE NAMES", z.lost(0, 50, 60, 0), 0);
        DoorsBook v = edge.told(BOOKS + "line 0 trade 0 1 lee;line 1 trade 0 1 baker;line 1 trade 0 2 lee;");
        edge.row("one AFTER is left out", lost(v, 0, 50, 60), 1, 1, 2);
        edge.row("one BEFORE is left out", lost(v, 0, 60, 50), 1, 2, 1);
        DoorsBook u = edge.told(BOOKS + "line 0 listed 0 1 lee age 9;line 1 listed 0 1 lee age 99;");
        edge.due("by NAMES alone", u.lost(0, 50, 60, 0), 1);
    }

    private void lostRefuses() {
        edge.sentence(19, "BAD: STREET, years (0 to 9999), what.");
        DoorsBook x = edge.told("book 50 0 1;line 0 trade 0 1 a;");
        for (int bad : NO_STREETS) edge.due("STREET", x.lost(bad, 50, 50, 0), Edge.BAD);
        for (int bad : NO_YEARS) {
            edge.due("from", x.lost(0, bad, 50, 1), Edge.BAD);
            edge.due("to", x.lost(0, 50, bad, 2), Edge.BAD);
        }
        for (int bad : Edge.ints(-1, 3, Edge.MAX, Edge.MIN)) edge.due("what", x.lost(0, 50, 50, bad), Edge.BAD);
        edge.row("years 0 and 9999", lost(x, 0, 0, 9999), 0, 0, 0);
        edge.row("years 9999 and 0", lost(x, 3, 9999, 0), 0, 0, 0);
        edge.row("the later year first", lost(x, 0, 60, 50), 0, 0, 1);
    }

    // ---- promise 20

    private void foundOfSoMany() {
        edge.sentence(20, "Pair i of FOUND: the LINE BEFORE (what = 0), AFTER (1); NONE: there are not so many.");
        DoorsBook x = edge.told(BOOKS + "line 0 trade 0 1 lee;".repeat(6) + "line 1 trade 0 1 lee;".repeat(6));
        edge.row("six pairs", pairs(x), 0, 6, 1, 7, 2, 8, 3, 9, 4, 10, 5, 11);
        for (int i : Edge.ints(6, 7, 11, 12, 13, Edge.MAX)) {
            edge.row("not so many", Edge.of(x.found(0, 50, 60, i, 0), x.found(0, 50, 60, i, 1)), Edge.NONE, Edge.NONE);
        }
        edge.row("of none", Edge.of(x.found(1, 50, 60, 0, 0), x.found(0, 51, 60, 0, 0), x.found(0, 50, 61, 0, 1)), Edge.NONE, Edge.NONE, Edge.NONE);
        DoorsBook y = edge.told(BOOKS + "line 0 trade 0 1 lee;".repeat(12));
        edge.row("twelve with themselves", Edge.of(y.found(0, 50, 50, 11, 0), y.found(0, 50, 50, 11, 1), y.found(0, 50, 50, 12, 0)), 11, 11, Edge.NONE);
        edge.row("there is none below 0", Edge.of(x.found(0, 50, 60, -1, 0), x.found(0, 50, 60, Edge.MIN, 1)), Edge.NONE, Edge.NONE);
    }

    private void foundRefuses() {
        edge.sentence(20, "BAD likewise.");
        DoorsBook x = edge.told("book 50 0 1;line 0 trade 0 1 a;");
        for (int bad : NO_STREETS) edge.due("STREET", x.found(bad, 50, 50, 0, 0), Edge.BAD);
        for (int bad : NO_YEARS) {
            edge.due("from", x.found(0, bad, 50, 0, 0), Edge.BAD);
            edge.due("to", x.found(0, 50, bad, 0, 0), Edge.BAD);
        }
        for (int bad : Edge.ints(-1, 2, Edge.MAX, Edge.MIN)) {
            edge.due("what", x.found(0, 50, 50, 0, bad), Edge.BAD);
            edge.due("what, ahead of NONE", x.found(0, 50, 50, 1, bad), Edge.BAD);
        }
        edge.row("years 0 and 9999", Edge.of(x.found(3, 0, 9999, 0, 0), x.found(0, 9999, 0, 0, 1)), Edge.NONE, Edge.NONE);
    }

    private void theWayFound() {
        edge.sentence(Edge.TERMS, "FOUND: of all ways with so many the one whose first pair has the least BEFORE, then the least AFTER, then the second, ..");
        DoorsBook x = edge.told(BOOKS + "line 0 trade 0 1 lee;line 0 trade 0 2 lee;line 1 trade 0 1 lee;");
        edge.row("the least BEFORE", pairs(x), 0, 2);
        DoorsBook y = edge.told(BOOKS + "line 0 trade 0 1 lee;line 1 trade 0 1 lee;line 1 trade 0 2 lee;");
        edge.row("the least AFTER", pairs(y), 0, 1);
        DoorsBook z = edge.told(BOOKS + "line 0 trade 0 1 lee;line 0 trade 0 2 cole;line 0 trade 0 3 cole;"
            + "line 1 trade 0 1 lee;line 1 trade 0 2 cole;line 1 trade 0 3 lee;");
        edge.row("then the second", pairs(z), 0, 3, 1, 4);
        DoorsBook u = edge.told(BOOKS + "line 0 trade 0 1 baker;line 0 trade 0 2 lee;line 0 trade 0 3 cole;"
            + "line 1 trade 0 1 lee;line 1 trade 0 2 cole;line 1 trade 0 3 baker;");
        edge.row("of ways with so many alone", pairs(u), 1, 3, 2, 4);
        DoorsBook v = edge.told(BOOKS + "line 0 trade 0 2 lee;line 0 trade 0 1 lee;line 1 trade 0 2 lee;");
        edge.row("the least BEFORE is the first by its number", pairs(v), 1, 2);
        DoorsBook t = edge.told("book 70 0 1;" + BOOKS + "line 1 trade 0 1 lee;line 1 trade 0 2 baker;line 2 trade 0 1 baker;"
            + "line 0 trade 0 1 cole;line 0 trade 0 2 lee;");
        edge.row("between other years", Edge.of(t.found(0, 50, 70, 0, 0), t.found(0, 50, 70, 0, 1)), 0, 4);
        edge.row("nothing stays of them", pairs(t), 1, 2);
        DoorsBook w = edge.told(BOOKS + "line 0 trade 0 1 lee;line 0 trade 0 2 cole;line 1 trade 0 1 cole;line 1 trade 0 2 lee;");
        edge.row("the least BEFORE goes ahead of the least AFTER", pairs(w), 0, 3);
    }

    // ---- promise 21

    private static long[] missing(DoorsBook x, int a, int b) {
        return Edge.of(x.missing(a, b, 0), x.missing(a, b, 1), x.missing(a, b, 2));
    }

    private void missingOfNone() {
        edge.sentence(Edge.TERMS, "GUESSED: a b by BOTH (NONE: BOTH is 0); SEEN: a and b less BOTH.");
        DoorsBook x = edge.told(BOOKS);
        edge.row("without LINES", missing(x, 0, 1), Edge.NONE, 0, 0);
        edge.tell(x, "line 0 trade 0 1 lee;");
        edge.row("one without", missing(x, 0, 1), Edge.NONE, 1, 0);
        edge.row("one without", missing(x, 1, 0), Edge.NONE, 1, 0);
        edge.tell(x, "line 1 trade 0 2 lee;");
        edge.row("another DOOR", missing(x, 0, 1), Edge.NONE, 2, 0);
        edge.tell(x, "line 1 trade 0 1 baker;");
        edge.row("another NAME", missing(x, 0, 1), Edge.NONE, 3, 0);
        edge.tell(x, "line 1 trade 1 1 lee;");
        edge.row("another STREET", missing(x, 0, 1), Edge.NONE, 4, 0);
        edge.tell(x, "line 1 stale 0 1 lea;");
        edge.row("one", missing(x, 0, 1), 4, 4, 1);
        edge.row("the first LINE of all is the one", missing(x, 1, 0), 4, 4, 1);
        edge.faulty(x, "line 1 trade 0 1 lee;line 0 trade 0 1 lee;x", 42, 1);
        edge.row("what did not come does not count", missing(x, 0, 1), 4, 4, 1);
        edge.tell(x, "book 70 0 1;line 2 trade 0 1 lee;line 2 trade 0 1 lee;");
        edge.row("nor do LINES of other BOOKS", missing(x, 0, 1), 4, 4, 1);
        edge.row("two of the third", missing(x, 2, 0), 1, 1, 2);
        DoorsBook y = edge.told(BOOKS + "line 0 trade 0 1 lee;");
        edge.faulty(y, "line 1 trade 0 1 lee;x", 21, 1);
        edge.row("what did not come does not count", missing(y, 0, 1), Edge.NONE, 1, 0);
    }

    private void bothOfTheFirst() {
        edge.sentence(Edge.TERMS, "MISSING of two BOOKS: their LINES a, b; BOTH: how many of the first have one of the second with a LIKE NAME at the same DOOR.");
        DoorsBook x = edge.told(BOOKS + "line 0 trade 0 1 lee;".repeat(11) + "line 1 trade 0 1 lee;");
        edge.row("eleven of the first have the one", missing(x, 0, 1), 1, 1, 11);
        edge.row("the one has eleven", missing(x, 1, 0), 11, 11, 1);
        DoorsBook z = edge.told(BOOKS + "line 0 trade 0 1 lee;".repeat(11) + "line 1 trade 0 2 lee;");
        edge.row("none of twelve", missing(z, 0, 1), Edge.NONE, 12, 0);
        DoorsBook y = edge.told(BOOKS + "line 0 trade 0 1 lee;line 1 trade 0 5 lee;order 50 0 1 5;");
        edge.due("an ORDER of GATHERED does not count", y.missing(0, 1, 2), 0);
        edge.tell(y, "order 51 0 1 5;");
        edge.row("one of the year behind does", missing(y, 0, 1), 1, 1, 1);
    }

    private void guessedIsCut() {
        edge.sentence(Edge.TERMS, "All that is divided is cut towards 0.");
        DoorsBook x = edge.told(BOOKS + "line 0 trade 0 1 a;line 0 trade 0 2 a;line 0 trade 0 3 a;line 1 trade 0 1 a;line 1 trade 0 2 a;line 1 trade 0 9 a;");
        edge.due("9 by 2", x.missing(0, 1, 0), 4);
        edge.tell(x, "line 1 trade 0 3 a;");
        edge.due("12 by 3", x.missing(0, 1, 0), 4);
        edge.tell(x, "line 1 trade 0 10 a;line 0 trade 0 20 a;");
        edge.due("20 by 3", x.missing(0, 1, 0), 6);
        DoorsBook y = edge.told("book 50 0 6;book 50 0 3;book 50 0 7;line 0 trade 0 1 a;line 0 trade 0 2 a;line 1 trade 0 3 a;line 2 trade 0 4 a;");
        edge.due("333 and 333 and 142", y.next(), 0);
    }

    private void missingRefuses() {
        edge.sentence(21, "MISSING of two BOOKS: 0 GUESSED, 1 SEEN, 2 BOTH. BAD (one BOOK twice, too).");
        DoorsBook x = edge.told(BOOKS + "line 0 trade 0 1 a;line 1 trade 0 1 a;");
        for (int what = 0; what < 3; what++) {
            for (int bad : Edge.ints(-1, 2, 10, Edge.MAX, Edge.MIN)) {
                edge.due("a", x.missing(bad, 0, what), Edge.BAD);
                edge.due("b", x.missing(0, bad, what), Edge.BAD);
            }
            edge.row("one BOOK twice", Edge.of(x.missing(0, 0, what), x.missing(1, 1, what)), Edge.BAD, Edge.BAD);
        }
        for (int bad : Edge.ints(-1, 3, Edge.MAX, Edge.MIN)) edge.due("what", x.missing(0, 1, bad), Edge.BAD);
        DoorsBook y = edge.told("book 50 0 1;".repeat(10));
        edge.row("the first and the last", Edge.of(y.missing(0, 9, 1), y.missing(9, 0, 1), y.missing(0, 10, 1)), 0, 0, Edge.BAD);
    }

    // ---- promise 22

    private void shownYears() {
        edge.sentence(Edge.TERMS, "SHOWN in a year: a LINE with GATHERED 72 years ahead of it or more; a COUNTED one 100.");
        String[] sorts = {"listed", "rated", "counted", "trade", "stale"};
        for (int sort = 0; sort < 5; sort++) {
            DoorsBook x = edge.told("book 1859 9 1;line 0 " + sorts[sort] + " 0 1 a;");
            int years = sort == 2 ? 100 : 72;
            edge.row(sorts[sort], Edge.of(x.shown(0, 1850), x.shown(0, 1850 + years - 1), x.shown(0, 1850 + years), x.shown(0, 1850 + years + 1)), 0, 0, 1, 1);
            edge.row(sorts[sort] + ", far off", Edge.of(x.shown(0, 1), x.shown(0, 9998)), 0, 1);
        }
        DoorsBook y = edge.told("book 9927 0 1;book 9926 0 1;line 0 trade 0 1 a;line 1 trade 0 1 a;book 1 0 1;line 2 counted 0 1 a;");
        edge.row("at the last year", Edge.of(y.shown(0, 9998), y.shown(1, 9998), y.shown(0, 9999)), 0, 1, 1);
        edge.row("at the first years", Edge.of(y.shown(2, 100), y.shown(2, 101)), 0, 1);
    }

    private void shownRefuses() {
        edge.sentence(22, "Whether a LINE is SHOWN in a year: 1, 0. BAD.");
        DoorsBook x = edge.told("book 1850 0 1;line 0 trade 0 1 a;");
        for (int bad : Edge.ints(-1, 1, 12, Edge.MAX, Edge.MIN)) edge.due("no such LINE", x.shown(bad, 1900), Edge.BAD);
        for (int bad : NO_YEARS) edge.due("year", x.shown(0, bad), Edge.BAD);
        edge.due("both", x.shown(1, 10000), Edge.BAD);
    }

    // ---- promises 23 and 24

    private void leafTellsWhatItWas() {
        edge.sentence(23, "A BOOK is READ (1), is not (0): what it was.");
        DoorsBook x = edge.told("book 50 0 1;".repeat(10));
        edge.sentence(23, "(None is at first.)");
        for (int book = 0; book < 10; book++) edge.due("at first", x.leaf(book, 1), 0);
        edge.sentence(23, "A BOOK is READ (1), is not (0): what it was.");
        for (int book = 0; book < 10; book++) edge.due("READ", x.leaf(book, 1), 1);
        edge.row("the last one", Edge.of(x.leaf(9, 0), x.leaf(9, 0), x.leaf(9, 1), x.leaf(9, 1)), 1, 0, 0, 1);
        edge.due("the others are as they were", x.leaf(8, 1), 1);
        DoorsBook y = edge.told("book 50 0 1;");
        y.leaf(0, 1);
        edge.tell(y, "book 60 0 1;");
        edge.row("a BOOK that comes is not READ", Edge.of(y.leaf(0, 1), y.leaf(1, 0)), 1, 0);
    }

    private void leafRefuses() {
        edge.sentence(23, "what it was. BAD.");
        DoorsBook x = edge.told(BOOKS);
        for (int bad : Edge.ints(-1, 2, 9, 10, Edge.MAX, Edge.MIN)) {
            edge.row("no such BOOK", Edge.of(x.leaf(bad, 0), x.leaf(bad, 1)), Edge.BAD, Edge.BAD);
        }
        for (int bad : Edge.ints(-1, 2, Edge.MAX, Edge.MIN)) edge.due("is", x.leaf(0, bad), Edge.BAD);
        edge.row("none is READ by that", Edge.of(x.leaf(0, 0), x.leaf(1, 0)), 0, 0);
        edge.tell(x, "book 70 0 1;");
        edge.due("nor is the one told later", x.leaf(2, 0), 0);
    }

    private void nextOfAll() {
        edge.sentence(24, "NEXT. NONE.");
        DoorsBook x = new DoorsBook();
        edge.due("no BOOKS", x.next(), Edge.NONE);
        edge.tell(x, "book 50 0 1;");
        edge.due("one, without LINES", x.next(), 0);
        x.leaf(0, 1);
        edge.due("it is READ", x.next(), Edge.NONE);
        edge.tell(x, "book 50 0 99;".repeat(9));
        for (int book = 1; book < 10; book++) {
            edge.due("the first that is not READ", x.next(), book);
            x.leaf(book, 1);
        }
        edge.sentence(Edge.TERMS, "NONE: all are READ.");
        edge.due("all ten", x.next(), Edge.NONE);
        x.leaf(9, 0);
        edge.due("all but the last", x.next(), 9);
    }

    private void nextByPages() {
        edge.sentence(Edge.TERMS, "by PAGES (times 1000, cut)");
        String line = "line 0 trade 0 1 a;line 1 trade 0 2 a;";
        edge.due("1000 by 99 and by 98 are 10 both", edge.told("book 50 0 99;book 50 0 98;" + line).next(), 0);
        edge.due("1000 by 91 is 10", edge.told("book 50 0 99;book 50 0 91;" + line).next(), 0);
        edge.due("1000 by 90 is 11", edge.told("book 50 0 99;book 50 0 90;" + line).next(), 1);
        edge.due("1000 by 51 is 19, by 50 20", edge.told("book 50 0 51;book 50 0 50;" + line).next(), 1);
        edge.due("1000 by 2 and by 1", edge.told("book 50 0 2;book 50 0 1;" + line).next(), 1);
        edge.due("1000 and 2000", edge.told("book 50 0 1;book 50 0 1;" + line + "line 1 trade 0 3 a;").next(), 1);
        edge.due("1000 by 99 is more than none by 1", edge.told("book 50 0 1;book 50 0 99;line 1 trade 0 1 a;").next(), 1);
        edge.due("eleven by 99 are 111, one by 9 is, too", edge.told("book 50 0 9;book 50 0 99;line 0 trade 0 1 a;" + "line 1 trade 0 2 a;".repeat(11)).next(), 0);
        edge.due("eleven by 98 are 112", edge.told("book 50 0 9;book 50 0 98;line 0 trade 0 1 a;" + "line 1 trade 0 2 a;".repeat(11)).next(), 1);
    }

    private void nextOfSeveral() {
        edge.sentence(Edge.TERMS, "of several the first; NONE: all are READ.");
        DoorsBook x = edge.told("book 50 0 5;book 50 0 5;book 50 0 5;line 2 trade 0 1 a;line 1 trade 0 2 a;");
        edge.due("1 and 2 alike", x.next(), 1);
        x.leaf(1, 1);
        edge.due("2", x.next(), 2);
        x.leaf(2, 1);
        edge.due("0, without LINES", x.next(), 0);
    }

    private void nextAtDoors() {
        edge.sentence(Edge.TERMS, "NEXT: of BOOKS that are not READ (told so) the one with the most LINES, that no READ BOOK has a LINE at the DOOR of");
        DoorsBook x = edge.told("book 50 0 1;book 60 0 1;book 70 0 1;line 0 trade 0 1 a;line 1 trade 0 9 b;line 1 stale 0 8 b;line 2 trade 1 1 c;");
        edge.due("two of BOOK 1", x.next(), 1);
        x.leaf(0, 1);
        edge.due("9 is not 1", x.next(), 1);
        edge.tell(x, "order 55 0 1 9;");
        edge.due("1 is 9: one and one", x.next(), 1);
        edge.tell(x, "order 65 0 9 8;");
        edge.due("1 is 9 is 8: none and one", x.next(), 2);
        x.leaf(0, 0);
        edge.due("no READ BOOK has it", x.next(), 1);
        DoorsBook y = edge.told("book 50 0 1;book 60 0 1;line 0 trade 0 1 a;line 0 trade 0 1 a;line 1 trade 0 1 a;");
        edge.due("each LINE counts, at one DOOR, too", y.next(), 0);
        y.leaf(1, 1);
        edge.due("none is left, but the BOOK is not READ", y.next(), 0);
        DoorsBook z = edge.told("book 50 0 1;book 60 0 1;book 70 0 1;line 1 trade 0 1 a;line 2 trade 0 2 a;");
        z.leaf(0, 1);
        edge.faulty(z, "line 0 trade 0 1 a;x", 19, 1);
        edge.due("a LINE that did not come is at no DOOR", z.next(), 1);
    }
}
