/** Boundary cases of what is asked: promises 25 to 30. */
final class AskEdges {
    private static final String FIVE = "book 50 0 1;line 0 listed 1 9 a;line 0 rated 1 8 ab;line 0 counted 1 7 abc;"
        + "line 0 trade 1 6 abcd;line 0 stale 1 5 abcde;";

    private final Edge edge;

    AskEdges(Edge edge) {
        this.edge = edge;
    }

    void run() {
        constants();
        kindsOfLines();
        takenAsAKind();
        asRefuses();
        asIsNoSuchOne();
        kindsThatAreKinds();
        bodiesOfSize();
        bodiesOfMark();
        nearestBodies();
        leastAndMost();
        askRefuses();
        traceIsEmptyAhead();
        traceOfSixteen();
        countsOfAll();
        countRefuses();
        statusOfNone();
        statusOfSheets();
        statusOfOthers();
    }

    // ---- promises 25 and 26

    private void kindsOfLines() {
        edge.sentence(25, "The KIND of a LINE, as it is told (1 to 5). BAD.");
        DoorsBook x = edge.told(FIVE);
        for (int line = 0; line < 5; line++) edge.due("kind", x.kind(line), line + 1);
        for (int bad : Edge.ints(-1, 5, 12, Edge.MAX, Edge.MIN)) edge.due("no such LINE", x.kind(bad), Edge.BAD);
        DoorsBook y = edge.told("book 50 0 1;" + "line 0 trade 0 1 a;".repeat(11) + "line 0 stale 0 1 a;");
        edge.row("the last LINE", Edge.of(y.kind(10), y.kind(11), y.kind(12)), 4, 5, Edge.BAD);
        edge.sentence(Edge.TERMS, "It is told by its SORT: by this it is asked.");
        for (int kind = 0; kind < 6; kind++) x.as(1, kind);
        edge.row("what it was taken as does not count", Edge.of(x.kind(1), x.ask(1, 0), x.trace(0)), 2, 20, 12);
    }

    private void takenAsAKind() {
        edge.sentence(26, "A LINE is taken as one of a KIND (0 .. 5): its number.");
        DoorsBook x = edge.told("book 50 0 1;line 0 listed 0 1 a;line 0 stale 0 99 a;order 60 0 99 2;");
        edge.row("the least and the most", Edge.of(x.as(0, 0), x.as(0, 1), x.as(1, 0), x.as(1, 5)), 1, 1, 99, 99);
    }

    private void asRefuses() {
        edge.sentence(26, "its number. BAD; KIND: it is no such one");
        DoorsBook x = edge.told(FIVE);
        for (int kind = 0; kind < 6; kind++) {
            for (int bad : Edge.ints(-1, 5, 12, Edge.MAX, Edge.MIN)) edge.due("no such LINE", x.as(bad, kind), Edge.BAD);
        }
        for (int bad : Edge.ints(-1, 6, Edge.MAX, Edge.MIN)) edge.due("no such KIND", x.as(0, bad), Edge.BAD);
        edge.due("status", x.status(), 0);
    }

    private void asIsNoSuchOne() {
        edge.sentence(26, "(each is a LINE, RATED and COUNTED ones are HOMES, too)");
        DoorsBook x = edge.told(FIVE);
        String[] is = {"110000", "111000", "110100", "100010", "100001"};
        for (int line = 0; line < 5; line++) {
            for (int kind = 0; kind < 6; kind++) {
                boolean fits = is[line].charAt(kind) == '1';
                edge.due("LINE " + line + " as " + kind, x.as(line, kind), fits ? 9 - line : Edge.KIND);
                edge.due("status", x.status(), fits ? 0 : 3);
            }
        }
    }

    private void kindsThatAreKinds() {
        edge.sentence(Edge.TERMS, "KINDS of LINES: 0 LINE; 1 HOME, a LINE: listed; 2 RATED, a HOME; 3 COUNTED, a HOME; 4 TRADE, a LINE; 5 STALE, a LINE.");
        DoorsBook x = edge.told(FIVE);
        edge.row("as a HOME", Edge.of(x.as(0, 1), x.as(1, 1), x.as(2, 1), x.as(3, 1), x.as(4, 1)), 9, 8, 7, Edge.KIND, Edge.KIND);
        edge.row("a HOME as one of the others", Edge.of(x.as(0, 2), x.as(0, 3), x.as(0, 4), x.as(0, 5)), Edge.KIND, Edge.KIND, Edge.KIND, Edge.KIND);
        edge.row("side by side", Edge.of(x.as(1, 3), x.as(2, 2), x.as(3, 5), x.as(4, 4)), Edge.KIND, Edge.KIND, Edge.KIND, Edge.KIND);
    }

    // ---- promises 27 and 28

    private void asked(DoorsBook x, int line, int what, int answer, int... bodies) {
        edge.due("ask(" + line + ", " + what + ")", x.ask(line, what), answer);
        for (int i = 0; i < 17; i++) edge.due("trace(" + i + ")", x.trace(i), i < bodies.length ? bodies[i] : Edge.NONE);
    }

    private void bodiesOfSize() {
        edge.sentence(Edge.TERMS, "0 SIZE: 10 lent to all LINES: how many letters. 11 of HOMES: what 10 gives, and the number. "
            + "12 of RATED ones: what 11 gives, twice. 13 of COUNTED ones: what 11 gives, and MARK. 14 of STALE ones: 0 less what 10 gives.");
        DoorsBook x = edge.told(FIVE);
        asked(x, 0, 0, 1 + 9, 11, 10);
        asked(x, 1, 0, 2 * (2 + 8), 12, 11, 10);
        asked(x, 2, 0, 3 + 7 + 50 + 1, 13, 11, 10, 22, 21, 20);
        asked(x, 3, 0, 4, 10);
        asked(x, 4, 0, -5, 14, 10);
    }

    private void bodiesOfMark() {
        edge.sentence(Edge.TERMS, "1 MARK: 20 lent to all LINES: GATHERED. 21 of HOMES: what 20 gives, and the STREET. "
            + "22 of COUNTED ones: what 21 gives, and the age (0 without). 23 of TRADES: what 20 gives, and SIZE.");
        DoorsBook x = edge.told(FIVE);
        asked(x, 0, 1, 50 + 1, 21, 20);
        asked(x, 1, 1, 50 + 1, 21, 20);
        asked(x, 2, 1, 50 + 1, 22, 21, 20);
        asked(x, 3, 1, 50 + 4, 23, 20, 10);
        asked(x, 4, 1, 50, 20);
    }

    /** RATED ones have no MARK of their own, STALE ones no MARK but the lent one, TRADES no SIZE but the lent one. */
    private void nearestBodies() {
        edge.sentence(Edge.TERMS, "(Of an ask the BODY told for the KIND begins, else that of the nearest KIND that it is, too, else the one that is lent; "
            + "SIZE, MARK within others are asked of the same LINE anew.)");
        DoorsBook x = edge.told(FIVE);
        asked(x, 1, 1, 51, 21, 20);
        asked(x, 4, 1, 50, 20);
        asked(x, 3, 0, 4, 10);
        asked(x, 2, 0, 61, 13, 11, 10, 22, 21, 20);
        asked(x, 3, 1, 54, 23, 20, 10);
    }

    private void leastAndMost() {
        edge.sentence(Edge.TERMS, "and the age (0 without)");
        DoorsBook x = edge.told("book 9998 0 1;book 1 0 1;line 0 counted 3 99 abcdefgh age 120;line 1 counted 0 1 a age 0;line 1 counted 0 1 a;"
            + "line 0 rated 3 99 abcdefgh age 120;line 1 stale 0 1 abcdefgh;line 0 trade 3 99 abcdefgh age 120;");
        edge.row("the most", Edge.of(x.ask(0, 0), x.ask(0, 1)), 8 + 99 + 9998 + 3 + 120, 9998 + 3 + 120);
        edge.row("age 0", Edge.of(x.ask(1, 0), x.ask(1, 1)), 1 + 1 + 1, 1);
        edge.row("no age", Edge.of(x.ask(2, 0), x.ask(2, 1)), 1 + 1 + 1, 1);
        edge.row("a RATED one's age does not count", Edge.of(x.ask(3, 0), x.ask(3, 1)), 2 * (8 + 99), 9998 + 3);
        edge.row("below 0", Edge.of(x.ask(4, 0), x.ask(4, 1)), -8, 1);
        edge.row("a TRADE", Edge.of(x.ask(5, 0), x.ask(5, 1)), 8, 9998 + 8);
    }

    private void askRefuses() {
        edge.sentence(27, "An ASK (0, 1) of a LINE. BAD.");
        DoorsBook x = edge.told(FIVE);
        for (int bad : Edge.ints(-1, 5, 12, Edge.MAX, Edge.MIN)) edge.row("no such LINE", Edge.of(x.ask(bad, 0), x.ask(bad, 1)), Edge.BAD, Edge.BAD);
        for (int bad : Edge.ints(-1, 2, Edge.MAX, Edge.MIN)) edge.due("no such ASK", x.ask(0, bad), Edge.BAD);
        edge.due("no BODY began", x.trace(0), Edge.NONE);
    }

    private void traceIsEmptyAhead() {
        edge.sentence(27, "THE TRACE is empty ahead of it.");
        DoorsBook x = edge.told(FIVE);
        asked(x, 2, 0, 61, 13, 11, 10, 22, 21, 20);
        asked(x, 3, 0, 4, 10);
        edge.due("refused", x.ask(5, 0), Edge.BAD);
        edge.due("refused", x.ask(0, 2), Edge.BAD);
        edge.row("what is refused changes nothing", Edge.of(x.trace(0), x.trace(1)), 10, Edge.NONE);
        x.as(0, 0);
        x.read();
        edge.row("nor do other calls", Edge.of(x.trace(0), x.trace(1)), 10, Edge.NONE);
    }

    private void traceOfSixteen() {
        edge.sentence(28, "Number i of THE TRACE; NONE.");
        DoorsBook x = edge.told(FIVE);
        for (int i : Edge.ints(-1, 0, 15, 16, Edge.MAX, Edge.MIN)) edge.due("nothing asked yet", x.trace(i), Edge.NONE);
        x.ask(2, 0);
        edge.row("six", Edge.of(x.trace(0), x.trace(5)), 13, 20);
        for (int i : Edge.ints(-1, 6, 15, 16, 17, Edge.MAX, Edge.MIN)) edge.due("no such number", x.trace(i), Edge.NONE);
        edge.sentence(Edge.TERMS, "ASKS of LINES, by BODIES, each of which leaves its number in THE TRACE as it begins (the first 16)");
        for (int k = 0; k < 20; k++) x.ask(2, 0);
        edge.row("no ask has more than six", Edge.of(x.trace(0), x.trace(5), x.trace(6), x.trace(15)), 13, 20, Edge.NONE, Edge.NONE);
    }

    /** STATE is told of no call, so its number is all that can be seen of it. */
    private void constants() {
        edge.sentence(Edge.TERMS, "public static final int NONE = -1000000, BAD = -1000001, STATE = -1000002, FULL = -1000003;");
        edge.row("constants", Edge.of(DoorsBook.NONE, DoorsBook.BAD, DoorsBook.STATE, DoorsBook.FULL), -1000000, -1000001, -1000002, -1000003);
    }

    // ---- promise 29

    private static long[] counts(DoorsBook x) {
        long[] all = new long[8];
        for (int what = 0; what < 8; what++) all[what] = x.count(what);
        return all;
    }

    private void countsOfAll() {
        edge.sentence(29, "How many: 0 SHEETS, 1 BOOKS, 2 LINES, 3 ORDERS, 4 HOUSES, 5 HOMES (RATED, COUNTED, too), 6 HOMELESS LINES, 7 bytes on the tape.");
        DoorsBook x = new DoorsBook();
        edge.row("none", counts(x), 0, 0, 0, 0, 0, 0, 0, 0);
        edge.tell(x, "book 50 0 1;".repeat(10) + "line 0 listed 0 1 a;line 0 rated 0 1 a;line 0 counted 0 1 a;line 0 trade 0 1 a;line 0 stale 0 1 a;");
        edge.tell(x, "line 9 listed 0 1 a;".repeat(7));
        edge.tell(x, "order 9 0 1 2;".repeat(20));
        edge.tell(x, "house 0 1 8 9;".repeat(20));
        for (int sheet = 0; sheet < 8; sheet++) x.sheet(sheet, 0, 0);
        for (int k = 0; k < 75; k++) x.feed(0, 8);
        edge.row("as many as there can be", counts(x), 8, 10, 12, 20, 20, 10, 12, 600);
    }

    private void countRefuses() {
        edge.sentence(29, "7 bytes on the tape. BAD.");
        DoorsBook x = edge.told(FIVE);
        for (int bad : Edge.ints(-1, 8, Edge.MAX, Edge.MIN)) edge.due("what", x.count(bad), Edge.BAD);
    }

    // ---- promise 30

    private void statusOfNone() {
        edge.sentence(30, "0: it had none, or there was none.");
        DoorsBook x = new DoorsBook();
        edge.due("there was none", x.status(), 0);
        edge.due("BAD", x.sheet(8, 0, 0), Edge.BAD);
        edge.due("BAD", x.as(0, 0), Edge.BAD);
        edge.due("there was none but BAD ones", x.status(), 0);
        edge.due("well", x.sheet(0, 0, 0), 0);
        edge.due("it had none", x.status(), 0);
    }

    private void after(DoorsBook x, String call, long answer, long due, int status) {
        edge.due(call, answer, due);
        edge.row("status() after " + call, Edge.of(x.status(), x.status()), status, status);
    }

    private void statusOfSheets() {
        edge.sentence(30, "Of the latest call with a SHEET, or as(), that was not BAD, STATE, FULL: the number of its FINDING");
        DoorsBook x = edge.told(FIVE);
        after(x, "sheet", x.sheet(0, 0, -1), Edge.SIZE, 4);
        after(x, "sheet, BAD", x.sheet(0, 3, -1), Edge.BAD, 4);
        after(x, "sheet, well", x.sheet(0, 2, 3), 3, 0);
        after(x, "set", x.set(1, 0, 0), Edge.NULL, 1);
        after(x, "set, BAD", x.set(8, 0, 0), Edge.BAD, 1);
        after(x, "set", x.set(0, 3, 0), Edge.PLACE, 2);
        after(x, "set, well", x.set(0, 0, 0), 0, 0);
        after(x, "copy", x.copy(0, 0, 1, 0, 1), Edge.NULL, 1);
        after(x, "copy, BAD", x.copy(0, 0, 8, 0, 1), Edge.BAD, 1);
        after(x, "sheet, well", x.sheet(1, 1, 3), 3, 0);
        after(x, "copy", x.copy(0, 0, 1, 0, 1), Edge.STORE, 5);
        after(x, "copy", x.copy(0, 0, 0, 1, 3), Edge.PLACE, 2);
        after(x, "copy, well", x.copy(0, 0, 0, 1, 2), 2, 0);
        after(x, "drop", x.drop(2), Edge.NULL, 1);
        after(x, "drop, BAD", x.drop(-1), Edge.BAD, 1);
        after(x, "drop, well", x.drop(1), 3, 0);
        after(x, "walks", x.walks(1, 0, 1), Edge.NULL, 1);
        after(x, "walks, BAD by n", x.walks(0, 0, 0), Edge.BAD, 1);
        after(x, "walks", x.walks(0, 1, 1), Edge.PLACE, 2);
        after(x, "walks, BAD by an ITEM", x.walks(0, 0, 1), Edge.BAD, 2);
        x.set(0, 1, 1);
        after(x, "as", x.as(0, 5), Edge.KIND, 3);
        after(x, "as, BAD", x.as(0, 6), Edge.BAD, 3);
        after(x, "walks, well", x.walks(0, 0, 1), 0, 0);
        after(x, "as", x.as(4, 1), Edge.KIND, 3);
        after(x, "as, well", x.as(4, 5), 5, 0);
    }

    private void statusOfOthers() {
        edge.sentence(30, "Of the latest call with a SHEET, or as()");
        DoorsBook x = edge.told(FIVE);
        x.set(7, 0, 0);
        x.feed(32, 1);
        x.feed(32, 9);
        x.read();
        Check.tell(x, "x");
        x.fault();
        x.line(0, 0);
        x.ear(0);
        x.alike(0, 1, 2);
        x.today(0, 1, 1);
        x.quarrels();
        x.joined(0);
        x.person(0);
        x.sure(0, 1);
        x.stay(0, 0);
        x.lost(0, 1, 2, 0);
        x.found(0, 1, 2, 0, 0);
        x.missing(0, 1, 0);
        x.shown(0, 1);
        x.leaf(0, 1);
        x.next();
        x.kind(0);
        x.ask(0, 0);
        x.trace(0);
        x.count(0);
        edge.due("no other call changes it", x.status(), 1);
        Check.feed(x, " ".repeat(600));
        edge.due("FULL", x.feed(32, 1), Edge.FULL);
        edge.due("nor does FULL", x.status(), 1);
    }
}
