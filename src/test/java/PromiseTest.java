/** A test or more for each promise, worked out by hand from the document. */
public final class PromiseTest {
    private static final int NONE = DoorsBook.NONE, BAD = DoorsBook.BAD, FULL = DoorsBook.FULL;
    private static final int NULL = -1000011, PLACE = -1000012, KIND = -1000013, SIZE = -1000014, STORE = -1000015;
    private static final int MAX = Integer.MAX_VALUE, MIN = Integer.MIN_VALUE;
    private static final int[] NO_YEARS = {-1, 10000, MAX, MIN};

    private static final Check CHECK = new Check();

    public static void main(String[] args) {
        aNewObject();
        sheets();
        setCutsToTheLane();
        copies();
        drops();
        feeds();
        reads();
        faultsOfBooks();
        faultsOfLines();
        faultsOfOrdersAndHouses();
        faultsOfRoom();
        faultNumberStays();
        linesAsTold();
        homelessLines();
        ears();
        hands();
        whoMayBeOne();
        todays();
        quarrelling();
        walksMeet();
        joinedWithoutRivals();
        joinedWithRivals();
        theFirstIsLeast();
        joinedAfterOrders();
        stays();
        lostAndFound();
        foundTakesTheLeast();
        missingLines();
        shownLines();
        leavesAndNext();
        nextLooksAtDoors();
        kindsAndAs();
        asksAndTrace();
        counts();
        statusOfSheetCalls();
        CHECK.end();
    }

    private static void due(String what, long got, long want) {
        CHECK.due(what, got, want);
    }

    private static DoorsBook told(String text) {
        DoorsBook x = new DoorsBook();
        CHECK.holds("a text is well: " + text, Check.tell(x, text) >= 0);
        return x;
    }

    /** The text on a new object has a FAULT: its place and number; and nothing of it comes. */
    private static void faulty(String text, int place, int number) {
        DoorsBook x = new DoorsBook();
        faulty(x, text, place, number);
        for (int what = 0; what < 8; what++) due("count(" + what + ") after " + text, x.count(what), 0);
    }

    private static void faulty(DoorsBook x, String text, int place, int number) {
        due("read() of " + text, Check.tell(x, text), -1000100 - place);
        due("fault() of " + text, x.fault(), number);
    }

    private static void row(String what, long[] got, long... want) {
        due(what + ", length", got.length, want.length);
        for (int k = 0; k < want.length && k < got.length; k++) due(what + ", " + k, got[k], want[k]);
    }

    // ---- promise 1

    private static void aNewObject() {
        DoorsBook x = new DoorsBook();
        for (int what = 0; what < 8; what++) due("count(" + what + ")", x.count(what), 0);
        due("status", x.status(), 0);
        due("fault", x.fault(), 0);
        due("quarrels", x.quarrels(), 0);
        due("next", x.next(), NONE);
        due("trace", x.trace(0), NONE);
        for (int sheet = 0; sheet < 8; sheet++) due("drop", x.drop(sheet), NULL);
        for (int book = 0; book < 10; book++) due("leaf", x.leaf(book, 0), BAD);
        for (int line = 0; line < 12; line++) due("kind", x.kind(line), BAD);
        due("NONE", DoorsBook.NONE, -1000000);
        due("BAD", DoorsBook.BAD, -1000001);
        due("STATE", DoorsBook.STATE, -1000002);
        due("FULL", DoorsBook.FULL, -1000003);
    }

    // ---- promise 2

    private static void sheets() {
        DoorsBook x = new DoorsBook();
        for (int sheet = 0; sheet < 8; sheet++) due("sheet", x.sheet(sheet, sheet % 3, 60 - sheet), 60 - sheet);
        due("sheets", x.count(0), 8);
        due("the last place", x.set(7, 52, 1), 1);
        due("behind it", x.set(7, 53, 1), PLACE);
        due("anew", x.sheet(7, 1, 60), 60);
        due("sheets", x.count(0), 8);
        due("of 0 again", x.copy(7, 52, 7, 0, 1), 1);
        due("none", x.sheet(0, 0, 0), 0);
        due("no place", x.set(0, 0, 0), PLACE);
        for (int bad : new int[] {-1, 8, MAX, MIN}) due("SHEET", x.sheet(bad, 0, -1), BAD);
        for (int bad : new int[] {-1, 3, MAX, MIN}) due("LANE", x.sheet(0, bad, -1), BAD);
        for (int bad : new int[] {61, MAX}) due("n", x.sheet(0, 0, bad), BAD);
        for (int few : new int[] {-1, MIN}) due("SIZE", x.sheet(1, 0, few), SIZE);
        due("as it was", x.drop(1), 59);
        DoorsBook y = new DoorsBook();
        y.sheet(0, 2, 6);
        for (int i = 0; i < 6; i++) y.set(0, i, 1);
        due("in place of what is there", y.sheet(0, 2, 6), 6);
        due("items are 0", y.walks(0, 0, 1), BAD);
        for (int i = 0; i < 6; i++) y.set(0, i, 10000);
        y.sheet(0, 2, 6);
        y.set(0, 1, 1);
        y.set(0, 4, 1);
        due("each of them", y.walks(0, 0, 2), 2);
    }

    // ---- promise 3

    private static void setCutsToTheLane() {
        DoorsBook x = new DoorsBook();
        for (int lane = 0; lane < 3; lane++) x.sheet(lane, lane, 2);
        long[] values = {127, 128, 255, 256, -129, 32767, 32768, 65535, 65536, MAX, MIN, -1};
        long[] bytes = {127, -128, -1, 0, 127, -1, 0, -1, 0, -1, 0, -1};
        long[] shorts = {127, 128, 255, 256, -129, 32767, -32768, -1, 0, -1, 0, -1};
        for (int k = 0; k < values.length; k++) {
            due("byte", x.set(0, 1, (int) values[k]), bytes[k]);
            due("short", x.set(1, 1, (int) values[k]), shorts[k]);
            due("int", x.set(2, 1, (int) values[k]), values[k]);
        }
        for (int bad : new int[] {-1, 8, MAX, MIN}) due("SHEET", x.set(bad, 0, 0), BAD);
        due("NULL", x.set(3, -1, 0), NULL);
        for (int bad : new int[] {-1, 2, MAX, MIN}) due("PLACE", x.set(0, bad, 0), PLACE);
    }

    // ---- promise 4

    /** What stands at ITEM i of a SHEET of ints, seen through where a walk of street 0 in year 0 comes to. */
    private static boolean holdsNumber(DoorsBook x, int sheet, int i, int number) {
        x.sheet(7, 2, 6);
        x.copy(sheet, i, 7, 1, 1);
        x.set(7, 4, number);
        return x.walks(7, 0, 2) == 2;
    }

    private static void copies() {
        DoorsBook x = new DoorsBook();
        x.sheet(0, 2, 5);
        for (int i = 0; i < 5; i++) x.set(0, i, i + 1);
        due("over itself, forward", x.copy(0, 0, 0, 1, 4), 4);
        for (int i = 0; i < 5; i++) CHECK.holds("forward " + i, holdsNumber(x, 0, i, i == 0 ? 1 : i));
        for (int i = 0; i < 5; i++) x.set(0, i, i + 1);
        due("over itself, back", x.copy(0, 1, 0, 0, 4), 4);
        for (int i = 0; i < 5; i++) CHECK.holds("back " + i, holdsNumber(x, 0, i, i == 4 ? 5 : i + 2));
        x.sheet(1, 2, 3);
        due("to another", x.copy(0, 3, 1, 1, 2), 2);
        CHECK.holds("came", holdsNumber(x, 1, 1, 5) && holdsNumber(x, 1, 2, 5));
        due("none at the ends", x.copy(0, 5, 1, 3, 0), 0);
        due("PLACE", x.copy(0, 6, 1, 0, 0), PLACE);
        due("PLACE", x.copy(0, 0, 1, 4, 0), PLACE);
        due("PLACE", x.copy(0, 0, 1, 1, 3), PLACE);
        due("PLACE", x.copy(1, 1, 0, 0, 3), PLACE);
        due("PLACE", x.copy(0, -1, 1, 0, 1), PLACE);
        due("PLACE", x.copy(0, 0, 1, -1, 1), PLACE);
        due("PLACE", x.copy(0, 0, 1, 0, -1), PLACE);
        due("PLACE", x.copy(0, MAX, 1, 0, 1), PLACE);
        due("PLACE", x.copy(0, 1, 1, 1, MAX), PLACE);
        due("PLACE", x.copy(0, MIN, 1, MIN, MIN), PLACE);
        x.sheet(2, 1, 1);
        due("STORE", x.copy(0, 0, 2, 0, 1), STORE);
        due("STORE ahead of PLACE", x.copy(0, -1, 2, 9, -1), STORE);
        due("STORE, though none is copied", x.copy(0, 0, 2, 0, 0), STORE);
        due("NULL ahead of PLACE", x.copy(0, -1, 3, 0, 0), NULL);
        due("NULL", x.copy(3, 0, 2, 0, 0), NULL);
        for (int bad : new int[] {-1, 8, MAX, MIN}) {
            due("BAD ahead of NULL", x.copy(bad, 0, 3, 0, 0), BAD);
            due("BAD ahead of NULL", x.copy(3, 0, bad, 0, 0), BAD);
        }
    }

    // ---- promise 5

    private static void drops() {
        DoorsBook x = new DoorsBook();
        x.sheet(2, 0, 17);
        x.sheet(3, 0, 0);
        due("had", x.drop(2), 17);
        due("had none", x.drop(3), 0);
        due("gone", x.drop(2), NULL);
        due("gone", x.set(2, 0, 0), NULL);
        due("sheets", x.count(0), 0);
        for (int bad : new int[] {-1, 8, MAX, MIN}) due("BAD", x.drop(bad), BAD);
    }

    // ---- promise 6

    private static void feeds() {
        DoorsBook x = new DoorsBook();
        for (int bad : new int[] {0, -1, 9, MAX, MIN}) due("n", x.feed(0, bad), BAD);
        due("bytes", x.feed(0x1122626f6f6bL, 4), 4);
        due("highest first", x.feed(0x2037203020313bL, 7), 11);
        due("read", x.read(), 0);
        due("a book", x.count(1), 1);
        for (int k = 1; k <= 74; k++) due("feed", x.feed(0x2020202020202020L, 8), 8 * k);
        due("7 more", x.feed(0x20202020202020L, 7), 599);
        due("FULL", x.feed(0x2020L, 2), FULL);
        due("none came", x.count(7), 599);
        due("BAD ahead of FULL", x.feed(0, 9), BAD);
        due("the last", x.feed(0x20L, 1), 600);
        due("FULL", x.feed(0x20L, 1), FULL);
        due("all blank", x.read(), 0);
        due("empty then", x.count(7), 0);
        due("all eight bytes", x.feed(0x80ffffffffffffffL, 8), 8);
        due("read", x.read(), -1000100);
    }

    // ---- promises 7 and 8

    private static void reads() {
        DoorsBook x = new DoorsBook();
        due("nothing", x.read(), 0);
        due("blanks", Check.tell(x, " \n  \n"), 0);
        due("no blanks but where words meet",
            Check.tell(x, "book1850 9 99;line0listed 3 99abcdefgh age 120;line 0 stale 0 1a age 0;"), 2);
        due("many blanks", Check.tell(x, "\n\n book\n 9998 0  0001 ;\n line 1 trade 0 1 age age\n 5 ; "), 3);
        due("year less LAG", x.line(0, 5), 1841);
        due("age", x.line(0, 4), 120);
        due("age", x.line(1, 4), 0);
        due("a NAME may be a word of the text", x.line(2, 8), 3);
        due("age", x.line(2, 4), 5);
        due("behind what there is", Check.tell(x, "order 9998 3 99 1;house 3 99 9998 9999;"), 3);
        due("orders", x.count(3), 1);
        due("houses", x.count(4), 1);
        faulty(x, "line 0 listed 0 1 lee;book 1 0 1;order 1 0 1 2;house 0 1 1 2;x", 61, 1);
        due("no line came", x.count(2), 3);
        due("no book came", x.count(1), 2);
        due("no order came", x.count(3), 1);
        due("no house came", x.count(4), 1);
        due("empty then", x.count(7), 0);
        due("the next text is not touched", Check.tell(x, "line 1 rated 1 2 li;"), 4);
        due("its letters", x.line(3, 8), 2);
        due("a BOOK that did not come is not told", Check.tell(x, "line 2 rated 1 2 li;"), -1000105);
    }

    private static void faultsOfBooks() {
        faulty("b", 0, 1);
        faulty("books 1 0 1;", 0, 1);
        faulty("boo 1 0 1;", 0, 1);
        faulty("xook 1 0 1;", 0, 1);
        faulty("bxok 1 0 1;", 0, 1);
        faulty(" 5", 1, 1);
        faulty(";", 0, 1);
        faulty("BOOK 1 0 1;", 0, 1);
        faulty("book", 4, 1);
        faulty("book ", 5, 1);
        faulty("book x", 5, 1);
        faulty("book 0 0 1;", 5, 2);
        faulty("book 9999 0 1;", 5, 2);
        faulty("book 12345 0 1;", 5, 1);
        faulty("book 00001 0 1;", 5, 1);
        faulty("book 1850 10 1;", 10, 2);
        faulty("book 9 9 1;", 7, 2);
        faulty("book 1 1 1;", 7, 2);
        faulty("book 9 8 0;", 9, 2);
        faulty("book 9 8 100;", 9, 2);
        faulty("book 9 8 1 ", 11, 1);
        faulty("book 9 8 1 1;", 11, 1);
        faulty("book 9 8 1;;", 11, 1);
        faulty("book 9 8 1;\t", 11, 1);
        faulty("book 9 -8 1;", 7, 1);
        faulty("book 9 8 1;x", 11, 1);
        faulty("book 1850 0 1; book 0 0 1; book x", 20, 2);
        faulty("book 9\0", 6, 1);
        faulty("book 9 " + (char) 233, 7, 1);
    }

    private static void faultsOfLines() {
        String b = "book 9 0 1;";
        int n = b.length();
        faulty("line 0 listed 0 1 a;" + b, 5, 2);
        faulty(b + "line 1 listed 0 1 a;", n + 5, 2);
        faulty(b + "line x", n + 5, 1);
        faulty(b + "line 0 list 0 1 a;", n + 7, 1);
        faulty(b + "line 0 abcdefghi 0 1 a;", n + 7, 1);
        faulty(b + "line 0 5 0 1 a;", n + 7, 1);
        faulty(b + "line 0 rated 4 1 a;", n + 13, 2);
        faulty(b + "line 0 rated 0 0 a;", n + 15, 2);
        faulty(b + "line 0 rated 0 100 a;", n + 15, 2);
        faulty(b + "line 0 rated 0 1 1;", n + 17, 1);
        faulty(b + "line 0 rated 0 1;", n + 16, 1);
        faulty(b + "line 0 rated 0 1 abcdefghi;", n + 17, 2);
        faulty(b + "line 0 rated 0 1 aB;", n + 18, 1);
        faulty(b + "line 0 rated 0 1 a b;", n + 19, 1);
        faulty(b + "line 0 rated 0 1 a age;", n + 22, 1);
        faulty(b + "line 0 rated 0 1 a age 121;", n + 23, 2);
        faulty(b + "line 0 rated 0 1 a age 5 age 5;", n + 25, 1);
        faulty(b + "line 0 rated 0 1 a age 5", n + 24, 1);
        faulty(b + "line 0 rated 0 1 a", n + 18, 1);
    }

    private static void faultsOfOrdersAndHouses() {
        faulty("order 0 0 1 2;", 6, 2);
        faulty("order 9999 0 1 2;", 6, 2);
        faulty("order 1 4 1 2;", 8, 2);
        faulty("order 1 0 0 2;", 10, 2);
        faulty("order 1 0 100 2;", 10, 2);
        faulty("order 1 0 1 0;", 12, 2);
        faulty("order 1 0 1 100;", 12, 2);
        faulty("order 1 0 1 1;", 12, 2);
        faulty("order 1 0 1 01;", 12, 2);
        faulty("order 1 0 1;", 11, 1);
        faulty("order 1 0 1 2", 13, 1);
        faulty("house 4 1 1 2;", 6, 2);
        faulty("house 0 0 1 2;", 8, 2);
        faulty("house 0 100 1 2;", 8, 2);
        faulty("house 0 1 0 2;", 10, 2);
        faulty("house 0 1 9999 9999;", 10, 2);
        faulty("house 0 1 5 5;", 12, 2);
        faulty("house 0 1 5 4;", 12, 2);
        faulty("house 0 1 5 10000;", 12, 1);
        faulty("house 0 1 5 6 7;", 14, 1);
    }

    private static void faultsOfRoom() {
        DoorsBook x = new DoorsBook();
        String book = "book 9 0 1;";
        faulty(x, book.repeat(11), 110, 3);
        due("ten", Check.tell(x, book.repeat(10)), 0);
        faulty(x, "book", 0, 3);
        String line = "line 9 stale 0 1 a;";
        due("twelve", Check.tell(x, line.repeat(12)), 12);
        faulty(x, " line x", 1, 3);
        String order = "order 9 0 1 2;";
        faulty(x, order.repeat(21), 280, 3);
        due("twenty", Check.tell(x, order.repeat(20)), 12);
        faulty(x, order, 0, 3);
        String house = "house 0 1 2 3;";
        due("twelve houses", Check.tell(x, house.repeat(12)), 12);
        faulty(x, house.repeat(9), 112, 3);
        due("twenty", Check.tell(x, house.repeat(8)), 12);
        faulty(x, house, 0, 3);
        due("books", x.count(1), 10);
        due("lines", x.count(2), 12);
        due("orders", x.count(3), 20);
        due("houses", x.count(4), 20);
    }

    private static void faultNumberStays() {
        DoorsBook x = new DoorsBook();
        faulty(x, "book 0", 5, 2);
        due("well", Check.tell(x, "book 9 0 1;"), 0);
        due("the latest FAULT", x.fault(), 2);
        faulty(x, "x", 0, 1);
        due("status is not of texts", x.status(), 0);
    }

    // ---- promise 9

    private static long[] allOf(DoorsBook x, int line) {
        long[] all = new long[9];
        for (int what = 0; what < 9; what++) all[what] = x.line(line, what);
        return all;
    }

    private static void linesAsTold() {
        DoorsBook x = told("book 1850 3 1;book 1860 0 1;line 1 trade 2 5 lee;line 0 counted 3 99 abcdefgh age 7;"
            + "order 1848 3 99 1;order 1847 3 99 2;");
        row("line 0", allOf(x, 0), 1, 3, 2, 5, NONE, 1860, 5, 0, 3);
        row("line 1", allOf(x, 1), 0, 2, 3, 99, 7, 1847, 1, 0, 8);
        for (int bad : new int[] {-1, 2, 12, MAX, MIN}) due("LINE", x.line(bad, 0), BAD);
        for (int bad : new int[] {-1, 9, MAX, MIN}) due("what", x.line(0, bad), BAD);
    }

    private static void homelessLines() {
        DoorsBook x = told("book 50 0 1;book 60 5 1;line 0 trade 0 5 a;line 1 trade 0 5 a;line 0 trade 0 6 a;"
            + "line 0 trade 1 7 a;order 52 0 5 7;order 56 0 5 7;house 0 7 50 55;house 1 7 51 9999;");
        row("at one door, from on, to not among them; no houses; another street",
            new long[] {x.line(0, 7), x.line(1, 7), x.line(2, 7), x.line(3, 7)}, 0, 1, 0, 1);
        due("count", x.count(6), 2);
        Check.tell(x, "house 0 7 55 56;");
        due("one of two will do", x.line(1, 7), 0);
        due("count", x.count(6), 1);
    }

    // ---- promise 10

    private static void ears() {
        DoorsBook x = told("book 9 0 1;line 0 trade 0 1 a;line 0 trade 0 1 zbcdlmr;line 0 trade 0 1 bbaab;"
            + "line 0 trade 0 1 bfpvcg;line 0 trade 0 1 ajkqsxz;line 0 trade 0 1 adtlmnr;line 0 trade 0 1 tymczak;"
            + "line 0 trade 0 1 aeiouhwy;line 0 trade 0 1 abahaca;line 0 trade 0 1 cnrn;");
        row("ears", new long[] {x.ear(0), x.ear(1), x.ear(2), x.ear(3), x.ear(4), x.ear(5), x.ear(6), x.ear(7),
            x.ear(8), x.ear(9)}, 0, 25123, 1100, 1120, 200, 345, 19520, 0, 120, 2565);
        for (int bad : new int[] {-1, 10, MAX, MIN}) due("LINE", x.ear(bad), BAD);
        for (int letter = 0; letter < 26; letter++) {
            DoorsBook y = told("book 9 0 1;line 0 trade 0 1 a" + (char) ('a' + letter) + ";");
            due("code of letter " + letter, y.ear(0), 100 * ("01230120022455012623010202".charAt(letter) - '0'));
        }
    }

    // ---- promise 11

    private static void hands() {
        DoorsBook x = told("book 9 0 1;line 0 trade 0 1 abcdefgh;line 0 trade 0 1 bcdefghi;line 0 trade 0 1 kitten;"
            + "line 0 trade 0 1 sitting;line 0 trade 0 1 a;line 0 trade 0 1 ba;line 0 trade 0 1 bab;line 0 trade 0 1 bac;");
        due("one out, one in", x.alike(0, 1, 0), 2);
        due("the other way", x.alike(1, 0, 0), 2);
        due("kitten", x.alike(2, 3, 0), 3);
        due("all but one", x.alike(0, 4, 0), 7);
        due("put in", x.alike(4, 5, 0), 1);
        due("by hand", x.alike(4, 5, 1), 1);
        due("EARS differ, HAND 2", x.alike(4, 6, 1), 0);
        due("changed", x.alike(6, 7, 0), 1);
        due("by hand", x.alike(6, 7, 1), 1);
        due("itself", x.alike(3, 3, 0), 0);
        for (int bad : new int[] {-1, 8, MAX, MIN}) {
            due("a", x.alike(bad, 0, 0), BAD);
            due("b", x.alike(0, bad, 0), BAD);
        }
        for (int bad : new int[] {-1, 3, MAX, MIN}) due("what", x.alike(0, 0, bad), BAD);
        DoorsBook y = told("book 9 0 1;line 0 trade 0 1 robert;line 0 trade 0 1 rupert;line 0 trade 0 1 rubin;");
        due("HAND", y.alike(0, 1, 0), 2);
        due("by ear", y.alike(0, 1, 1), 1);
        due("neither", y.alike(0, 2, 1), 0);
    }

    private static long may(String first, String second) {
        DoorsBook x = told("book 1850 0 1;book 1861 1 1;line " + first + ";line " + second + ";");
        due("either way", x.alike(1, 0, 2), x.alike(0, 1, 2));
        due("with itself", x.alike(0, 0, 2), 1);
        return x.alike(0, 1, 2);
    }

    private static void whoMayBeOne() {
        due("not LIKE", may("0 trade 0 1 lee", "0 trade 0 1 jones"), 0);
        due("LIKE", may("0 trade 0 1 lee", "0 trade 0 1 leigh"), 0);
        due("LIKE", may("0 trade 0 1 lee", "0 trade 0 1 lea"), 1);
        due("ages: 8 in 10 years", may("0 listed 0 1 lee age 30", "1 listed 0 1 lee age 38"), 1);
        due("ages: 7", may("0 listed 0 1 lee age 30", "1 listed 0 1 lee age 37"), 0);
        due("ages: 12", may("0 listed 0 1 lee age 30", "1 listed 0 1 lee age 42"), 1);
        due("ages: 13", may("0 listed 0 1 lee age 30", "1 listed 0 1 lee age 43"), 0);
        due("ages: -10", may("0 listed 0 1 lee age 40", "1 listed 0 1 lee age 30"), 0);
        due("later first", may("1 listed 0 1 lee age 41", "0 listed 0 1 lee age 30"), 1);
        due("of one year, 2", may("0 listed 0 1 lee age 41", "0 listed 0 1 lee age 43"), 1);
        due("of one year, 3", may("0 listed 0 1 lee age 41", "0 listed 0 1 lee age 44"), 0);
        due("age 0 is an age", may("0 listed 0 1 lee age 0", "1 listed 0 1 lee age 7"), 0);
        due("one has none", may("0 listed 0 1 lee", "1 listed 0 1 lee age 90"), 1);
        String[] sorts = {"listed", "rated", "counted", "trade", "stale"};
        for (int a = 0; a < 5; a++) {
            for (int b = 0; b < 5; b++) {
                String first = "0 " + sorts[a] + " 0 1 lee";
                due("two numbers", may(first, "0 " + sorts[b] + " 0 2 lee"), a > 2 || b > 2 ? 1 : 0);
                due("two streets", may(first, "0 " + sorts[b] + " 1 1 lee"), a > 2 || b > 2 ? 1 : 0);
                due("one door", may(first, "0 " + sorts[b] + " 0 1 lee"), 1);
                due("two years", may(first, "1 " + sorts[b] + " 0 2 lee"), 1);
            }
        }
        DoorsBook x = told("book 1850 0 1;book 1855 5 1;line 0 listed 0 1 lee;line 1 rated 0 2 lee;order 1851 0 1 2;");
        due("one DOOR by an ORDER", x.alike(0, 1, 2), 1);
    }

    // ---- promises 12 and 13

    private static void todays() {
        DoorsBook x = told("order 1870 0 5 6;order 1860 0 1 3;order 1860 0 3 5;order 1860 0 2 1;order 1850 0 9 2;order 1860 1 1 8;");
        due("one behind another", x.today(0, 1, 1859), 6);
        due("a year above", x.today(0, 1, 1860), 1);
        due("as they were told: 2 is 1 too late to be 3", x.today(0, 2, 1859), 1);
        due("by years, not as told", x.today(0, 9, 1849), 1);
        due("not yet", x.today(0, 9, 1850), 9);
        due("of that year on", x.today(0, 5, 1869), 6);
        due("street", x.today(1, 1, 0), 8);
        due("street", x.today(2, 1, 0), 1);
        due("number", x.today(3, 99, 9999), 99);
        for (int bad : new int[] {-1, 4, MAX, MIN}) due("STREET", x.today(bad, 1, 1), BAD);
        for (int bad : new int[] {-1, 0, 100, MAX, MIN}) due("number", x.today(0, bad, 1), BAD);
        for (int bad : NO_YEARS) due("year", x.today(0, 1, bad), BAD);
        DoorsBook y = told("order 60 0 1 2;order 60 0 2 1;order 60 0 1 3;");
        due("back and on", y.today(0, 1, 59), 3);
        Check.tell(y, "order 59 0 7 1;");
        due("an earlier year, told later", y.today(0, 7, 58), 3);
        due("not of its own year", y.today(0, 7, 59), 7);
    }

    private static void quarrelling() {
        DoorsBook x = told("order 60 0 1 2;");
        due("alone", x.quarrels(), 0);
        Check.tell(x, "order 61 0 1 2;order 60 1 1 2;order 60 0 2 1;");
        due("not of one year, STREET, old number", x.quarrels(), 0);
        Check.tell(x, "order 60 0 1 3;");
        due("one", x.quarrels(), 1);
        Check.tell(x, "order 60 0 1 2;");
        due("each with an earlier one", x.quarrels(), 2);
        Check.tell(x, "order 61 0 1 9;");
        due("of another year", x.quarrels(), 3);
    }

    // ---- promise 14

    private static void put(DoorsBook x, int sheet, int... items) {
        for (int i = 0; i < items.length; i++) x.set(sheet, i, items[i]);
    }

    private static void walksMeet() {
        DoorsBook x = told("order 60 0 1 2;");
        x.sheet(0, 2, 60);
        put(x, 0, 0, 1, 59, 0, 2, 0, 1, 2, 0, 0, 1, 60, 0, 2, 9999, 0, 1, 9999);
        due("three and two", x.walks(0, 0, 6), 5);
        due("two", x.walks(0, 0, 2), 2);
        due("two streets", x.walks(0, 3, 2), 0);
        due("from 9 on", x.walks(0, 9, 3), 2);
        due("any place: 1, 59, 0", x.walks(0, 1, 1), 0);
        due("twenty, not all told", x.walks(0, 0, 20), BAD);
        due("one", x.walks(0, 15, 1), 0);
        for (int bad : new int[] {-1, 58, 60, MAX, MIN}) due("PLACE", x.walks(0, bad, 1), PLACE);
        due("PLACE", x.walks(0, 1, 20), PLACE);
        for (int bad : new int[] {-1, 0, 21, MAX, MIN}) due("n ahead of NULL", x.walks(1, 0, bad), BAD);
        for (int bad : new int[] {-1, 8, MAX, MIN}) due("SHEET", x.walks(bad, 0, 1), BAD);
        due("NULL ahead of PLACE", x.walks(1, -1, 1), NULL);
        int[][] wrong = {{4, 1, 0}, {-1, 1, 0}, {0, 0, 0}, {0, 100, 0}, {0, 1, -1}, {0, 1, 10000}};
        for (int[] walk : wrong) {
            put(x, 0, walk);
            due("an ITEM", x.walks(0, 0, 1), BAD);
        }
        due("walks behind it are well", x.walks(0, 3, 5), 4);
        x.set(1, 0, 0);
        put(x, 0, 0, 0, 0);
        due("an ITEM is BAD", x.walks(0, 0, 1), BAD);
        due("so status is of the call ahead", x.status(), 0);
        due("NULL", x.walks(1, 0, 1), NULL);
        due("BAD", x.walks(0, 0, 1), BAD);
        due("status is that of NULL", x.status(), 1);
        DoorsBook y = new DoorsBook();
        y.sheet(5, 1, 60);
        for (int i = 0; i < 60; i++) y.set(5, i, 1);
        due("all twenty", y.walks(5, 0, 20), 20);
        for (int street = 0; street < 3; street++) {
            for (int number = 90; number < 100; number++) {
                put(y, 5, street, number, 0, street + 1, 100 - number, 0);
                due("two streets", y.walks(5, 0, 2), 0);
            }
        }
    }

    // ---- promises 15, 16 and 17

    private static long[] persons(DoorsBook x) {
        long[] all = new long[x.count(2)];
        for (int line = 0; line < all.length; line++) all[line] = x.person(line);
        return all;
    }

    private static void joinedWithoutRivals() {
        DoorsBook none = new DoorsBook();
        row("none", new long[] {none.joined(0), none.joined(1), none.joined(2)}, 0, 1, 0);
        DoorsBook x = told("book 50 0 1;line 0 trade 0 1 lee;line 0 trade 0 1 jones;line 0 stale 0 1 lea;line 0 rated 0 9 johns;");
        row("two", new long[] {x.joined(0), x.joined(1), x.joined(2)}, 2, 1, 2);
        row("persons", persons(x), 5, 10, 5, 10);
        due("one", x.sure(0, 2), 1);
        due("two", x.sure(0, 1), 0);
        due("the same", x.sure(3, 3), 1);
        for (int bad : new int[] {-1, 3, MAX, MIN}) due("what", x.joined(bad), BAD);
        for (int bad : new int[] {-1, 4, MAX, MIN}) {
            due("LINE", x.person(bad), BAD);
            due("a", x.sure(bad, 0), BAD);
            due("b", x.sure(0, bad), BAD);
        }
    }

    /** LINES 0 and 1 cannot be one (two homes at once), the others can be either. */
    private static void joinedWithRivals() {
        DoorsBook x = told("book 50 0 1;line 0 listed 0 1 lee;line 0 rated 0 2 lee;line 0 trade 0 3 lee;line 0 stale 0 4 lee;");
        row("two, four ways", new long[] {x.joined(0), x.joined(1), x.joined(2)}, 2, 4, 3);
        row("THE FIRST: LINE 0 alone", persons(x), 1, 14, 14, 14);
        due("never", x.sure(0, 1), 0);
        due("half", x.sure(0, 2), 2);
        due("half", x.sure(2, 3), 2);
        due("half", x.sure(3, 1), 2);
        due("all", x.sure(2, 2), 4);
    }

    /** Each NAME is LIKE the next one alone: two pairs and a lone LINE, which can be 0, 2 or 4. */
    private static void theFirstIsLeast() {
        String lines = "line 0 trade 0 1 a;line 0 trade 0 1 ab;line 0 trade 0 1 abd;line 0 trade 0 1 abdl;line 0 trade 0 1 abdlm;";
        DoorsBook x = told("book 50 0 1;" + lines);
        row("a chain of five", new long[] {x.joined(0), x.joined(1), x.joined(2)}, 3, 3, 2);
        row("THE FIRST: alone, then two pairs", persons(x), 1, 6, 6, 24, 24);
        due("sure", x.sure(0, 1), 2);
        due("sure", x.sure(1, 2), 1);
        due("sure", x.sure(2, 3), 1);
        due("sure", x.sure(3, 4), 2);
        due("not LIKE", x.sure(0, 2), 0);
    }

    private static void joinedAfterOrders() {
        DoorsBook x = told("book 50 0 1;line 0 listed 0 1 lee;line 0 listed 0 2 lee;");
        due("two", x.joined(0), 2);
        due("person", x.person(1), 2);
        Check.tell(x, "order 51 0 2 1;");
        due("one, by the ORDER", x.joined(0), 1);
        due("person", x.person(1), 3);
        Check.tell(x, "line 0 listed 0 1 lee;x");
        due("no LINE came", x.person(1), 3);
        Check.tell(x, "line 0 listed 0 1 lee;");
        due("a LINE came", x.person(1), 7);
        DoorsBook y = told("book 50 0 1;" + "line 0 trade 0 1 lee;".repeat(12));
        Check.tell(y, "order 51 0 2 1;");
        row("twelve", new long[] {y.joined(0), y.joined(1), y.joined(2)}, 1, 1, 12);
        DoorsBook z = told("book 50 0 1;" + "line 0 listed 0 1 lee;line 0 listed 0 2 lee;".repeat(6));
        row("two doors", new long[] {z.joined(0), z.joined(1), z.joined(2)}, 2, 1, 6);
        due("odd ones", z.person(11), 0xaaa);
        StringBuilder apart = new StringBuilder("book 50 0 1;");
        for (String name : "baker cole dorn ezra flint gould hume ivory jones krug lee mann".split(" ")) apart.append("line 0 trade 0 1 ").append(name).append(';');
        DoorsBook u = told(apart.toString());
        row("all apart", new long[] {u.joined(0), u.joined(1), u.joined(2), u.person(11)}, 12, 1, 1, 2048);
    }

    // ---- promise 18

    private static void stays() {
        DoorsBook x = told("book 1850 0 1;book 1860 0 1;book 1871 1 1;book 1880 0 1;"
            + "line 1 listed 0 3 lee;line 2 trade 0 5 lee;line 3 listed 0 7 lee;line 0 stale 0 3 lee;line 3 stale 0 8 lee;"
            + "order 1865 0 3 5;");
        due("one PERSON", x.person(0), 31);
        long[] at5 = {x.stay(0, 0), x.stay(0, 1), x.stay(0, 2), x.stay(0, 3)};
        row("at 5, the STALE one of 1850 does not count", at5, 1860, 1870, 1850, 1880);
        row("of any LINE there", new long[] {x.stay(3, 0), x.stay(3, 1), x.stay(3, 2), x.stay(3, 3)}, 1860, 1870, 1850, 1880);
        row("at 7", new long[] {x.stay(2, 0), x.stay(2, 1), x.stay(2, 2), x.stay(2, 3)}, 1880, 1880, 1870, 9999);
        row("all are STALE", new long[] {x.stay(4, 0), x.stay(4, 1), x.stay(4, 2), x.stay(4, 3)}, NONE, NONE, NONE, NONE);
        for (int bad : new int[] {-1, 5, MAX, MIN}) due("LINE", x.stay(bad, 0), BAD);
        for (int bad : new int[] {-1, 4, MAX, MIN}) due("what", x.stay(0, bad), BAD);
        due("what, though all are STALE", x.stay(4, 4), BAD);
        DoorsBook y = told("book 9998 0 1;book 1 0 1;line 0 trade 0 1 lee;line 1 trade 0 1 jones;");
        row("lee", new long[] {y.stay(0, 2), y.stay(0, 3)}, 1, 9999);
        row("jones", new long[] {y.stay(1, 2), y.stay(1, 3)}, 0, 9998);
        Check.tell(y, "book 9000 1 1;");
        row("a BOOK without LINES counts", new long[] {y.stay(0, 2), y.stay(1, 3)}, 8999, 8999);
    }

    // ---- promises 19 and 20

    private static long[] pairs(DoorsBook x, int street, int from, int to) {
        int n = x.lost(street, from, to, 0);
        long[] all = new long[2 * n];
        for (int i = 0; i < n; i++) {
            all[2 * i] = x.found(street, from, to, i, 0);
            all[2 * i + 1] = x.found(street, from, to, i, 1);
        }
        due("not so many", x.found(street, from, to, n, 0), NONE);
        due("not so many", x.found(street, from, to, n, 1), NONE);
        return all;
    }

    private static void lostAndFound() {
        DoorsBook x = told("book 1850 0 1;book 1860 0 1;book 1851 1 1;"
            + "line 0 listed 0 3 lee;line 0 trade 0 1 jones;line 2 stale 0 2 baker;line 1 listed 0 12 baker;"
            + "line 1 listed 0 10 johns;line 1 rated 0 11 lea;line 1 rated 1 1 jones;order 1855 0 3 1;order 1855 0 1 99;");
        row("how many", new long[] {x.lost(0, 1850, 1860, 0), x.lost(0, 1850, 1860, 1), x.lost(0, 1850, 1860, 2)}, 2, 3, 3);
        row("by their own numbers", pairs(x, 0, 1850, 1860), 1, 4, 2, 3);
        row("back: jones, lee comes ahead of baker there", pairs(x, 0, 1860, 1850), 4, 1, 5, 0);
        row("another street", new long[] {x.lost(1, 1850, 1860, 0), x.lost(1, 1850, 1860, 1), x.lost(1, 1850, 1860, 2)}, 0, 0, 1);
        row("one year", pairs(x, 0, 1850, 1850), 1, 1, 2, 2, 0, 0);
        due("GATHERED, not the year", x.lost(0, 1851, 1850, 1), 0);
        due("any years", x.lost(3, 0, 9999, 2), 0);
        for (int bad : new int[] {-1, 4, MAX, MIN}) {
            due("STREET", x.lost(bad, 1, 1, 0), BAD);
            due("STREET", x.found(bad, 1, 1, 0, 0), BAD);
        }
        for (int bad : NO_YEARS) {
            due("from", x.lost(0, bad, 1, 0), BAD);
            due("to", x.lost(0, 1, bad, 0), BAD);
            due("from", x.found(0, bad, 1, 0, 0), BAD);
            due("to", x.found(0, 1, bad, 0, 0), BAD);
        }
        for (int bad : new int[] {-1, 3, MAX, MIN}) due("what", x.lost(0, 1, 1, bad), BAD);
        for (int bad : new int[] {-1, 2, MAX, MIN}) due("what", x.found(0, 1850, 1860, 0, bad), BAD);
        due("far behind", x.found(0, 1850, 1860, MAX, 0), NONE);
        due("below", x.found(0, 1850, 1860, -1, 0), NONE);
    }

    private static void foundTakesTheLeast() {
        DoorsBook x = told("book 50 0 1;book 60 0 1;line 0 trade 0 1 lee;line 0 trade 0 1 jones;line 0 trade 0 9 lee;"
            + "line 1 trade 0 4 jones;line 1 trade 0 3 lee;line 1 trade 0 3 lee;");
        row("least BEFORE, then least AFTER, of one number as told", pairs(x, 0, 50, 60), 0, 4, 1, 3);
        DoorsBook y = told("book 50 0 1;book 60 0 1;line 0 trade 0 1 lee;line 0 trade 0 2 jones;line 1 trade 0 1 jones;line 1 trade 0 2 lee;");
        row("one pair: the least BEFORE", pairs(y, 0, 50, 60), 0, 3);
        row("back", pairs(y, 0, 60, 50), 2, 1);
        DoorsBook z = told("book 50 0 1;book 60 0 1;line 0 trade 0 1 baker;line 0 trade 0 2 lee;line 0 trade 0 3 jones;"
            + "line 1 trade 0 1 lee;line 1 trade 0 2 jones;line 1 trade 0 3 baker;");
        row("more pairs go ahead of a lesser first one", pairs(z, 0, 50, 60), 1, 3, 2, 4);
    }

    // ---- promise 21

    private static void missingLines() {
        DoorsBook x = told("book 50 0 1;book 60 0 1;book 70 0 1;line 0 trade 0 1 lee;line 0 stale 0 1 lea;line 0 trade 0 2 jones;"
            + "line 1 trade 0 7 lee;line 1 trade 0 2 baker;line 1 trade 1 2 jones;line 2 trade 3 9 lee;order 55 0 1 7;");
        row("two of the first", new long[] {x.missing(0, 1, 0), x.missing(0, 1, 1), x.missing(0, 1, 2)}, 4, 4, 2);
        row("one of the second", new long[] {x.missing(1, 0, 0), x.missing(1, 0, 1), x.missing(1, 0, 2)}, 9, 5, 1);
        row("none", new long[] {x.missing(0, 2, 0), x.missing(0, 2, 1), x.missing(0, 2, 2)}, NONE, 4, 0);
        for (int bad : new int[] {-1, 3, MAX, MIN}) {
            due("a", x.missing(bad, 0, 0), BAD);
            due("b", x.missing(0, bad, 0), BAD);
            due("what", x.missing(0, 1, bad), BAD);
        }
        due("one BOOK twice", x.missing(1, 1, 0), BAD);
        DoorsBook y = told("book 50 0 1;book 60 0 1;line 0 trade 0 1 a;line 0 trade 0 2 a;line 0 trade 0 3 a;"
            + "line 1 trade 0 1 a;line 1 trade 0 2 a;line 1 trade 0 4 a;");
        due("cut", y.missing(0, 1, 0), 4);
    }

    // ---- promise 22

    private static void shownLines() {
        DoorsBook x = told("book 1851 1 1;line 0 listed 0 1 a;line 0 rated 0 1 a;line 0 counted 0 1 a;line 0 trade 0 1 a;line 0 stale 0 1 a;");
        for (int line = 0; line < 5; line++) {
            int years = line == 2 ? 100 : 72;
            due("not yet", x.shown(line, 1850 + years - 1), 0);
            due("now", x.shown(line, 1850 + years), 1);
            due("later", x.shown(line, 9998), 1);
            due("before", x.shown(line, 1), 0);
        }
        for (int bad : new int[] {-1, 5, MAX, MIN}) due("LINE", x.shown(bad, 1), BAD);
        for (int bad : NO_YEARS) due("year", x.shown(0, bad), BAD);
    }

    // ---- promises 23 and 24

    private static void leavesAndNext() {
        DoorsBook x = told("book 50 0 3;book 60 0 7;book 70 0 99;line 0 trade 0 1 lee;line 1 trade 0 5 jones;line 1 stale 0 2 a;order 55 0 1 5;");
        due("1000/3 is more than 2000/7", x.next(), 0);
        due("was not", x.leaf(0, 1), 0);
        due("was", x.leaf(0, 1), 1);
        due("one of BOOK 1 is at a DOOR of BOOK 0, whatever the NAME", x.next(), 1);
        due("leaf", x.leaf(1, 1), 0);
        due("without LINES, but not READ", x.next(), 2);
        due("leaf", x.leaf(2, 1), 0);
        due("all are READ", x.next(), NONE);
        due("leaf", x.leaf(0, 0), 1);
        due("one not READ", x.next(), 0);
        due("was not", x.leaf(0, 0), 0);
        for (int bad : new int[] {-1, 3, 10, MAX, MIN}) due("BOOK", x.leaf(bad, 0), BAD);
        for (int bad : new int[] {-1, 2, MAX, MIN}) due("is", x.leaf(0, bad), BAD);
        due("as it was", x.leaf(0, 0), 0);
        DoorsBook y = told("book 50 0 3;book 60 0 7;book 70 0 6;line 1 trade 0 1 a;line 1 trade 0 2 a;line 2 trade 0 3 a;line 2 trade 0 3 a;"
            + "line 0 trade 0 4 a;");
        due("333 and 285 and 333: the first", y.next(), 0);
        DoorsBook z = told("book 50 0 98;book 50 0 99;" + "line 0 trade 0 1 a;line 1 trade 0 1 a;");
        due("cut: 10 and 10", z.next(), 0);
        String book99 = "book 50 0 99;";
        String twoLines = "line 0 trade 0 1 a;line 1 trade 0 1 a;";
        DoorsBook u = told(book99 + "book 50 0 98;" + twoLines);
        due("cut: 10 and 10", u.next(), 0);
        due("cut: 10 and 10, by 1000 and no more", told(book99 + "book 50 0 91;" + twoLines).next(), 0);
        due("19 and 20, by 1000 and no less", told("book 50 0 51;book 50 0 50;" + twoLines).next(), 1);
        due("without any LINES", told("book 50 0 99;book 50 0 98;").next(), 0);
    }

    /** BOOK 1 has more LINES than BOOK 2, but at DOORS of BOOK 0. */
    private static void nextLooksAtDoors() {
        DoorsBook x = told("book 50 0 9;book 60 0 9;book 70 0 9;line 0 trade 0 1 a;line 0 trade 0 2 a;"
            + "line 1 trade 0 11 b;line 1 trade 0 2 c;line 2 trade 1 1 a;order 55 0 1 11;");
        due("two, two, one", x.next(), 0);
        due("leaf", x.leaf(0, 1), 0);
        due("none, one: another STREET is another DOOR", x.next(), 2);
        due("leaf", x.leaf(2, 1), 0);
        due("the last one", x.next(), 1);
        due("leaf", x.leaf(0, 0), 1);
        due("two, two: BOOK 2 is elsewhere", x.next(), 0);
    }

    // ---- promises 25 and 26

    private static void kindsAndAs() {
        DoorsBook x = told("book 50 0 1;line 0 listed 1 9 a;line 0 rated 1 8 a;line 0 counted 1 7 a;line 0 trade 1 6 a;line 0 stale 1 5 a;");
        String[] is = {"110000", "111000", "110100", "100010", "100001"};
        for (int line = 0; line < 5; line++) {
            due("kind", x.kind(line), line + 1);
            for (int kind = 0; kind < 6; kind++) {
                boolean fits = is[line].charAt(kind) == '1';
                due("as(" + line + ", " + kind + ")", x.as(line, kind), fits ? 9 - line : KIND);
                due("status", x.status(), fits ? 0 : 3);
            }
            due("still told by its SORT", x.kind(line), line + 1);
        }
        for (int bad : new int[] {-1, 5, MAX, MIN}) {
            due("LINE", x.kind(bad), BAD);
            due("LINE", x.as(bad, 0), BAD);
        }
        for (int bad : new int[] {-1, 6, MAX, MIN}) due("KIND", x.as(0, bad), BAD);
        due("status of the call that was not BAD", x.status(), 0);
    }

    // ---- promises 27 and 28

    private static void asked(DoorsBook x, int line, int what, int answer, int... bodies) {
        due("ask(" + line + ", " + what + ")", x.ask(line, what), answer);
        for (int i = 0; i < bodies.length; i++) due("trace " + i, x.trace(i), bodies[i]);
        for (int i = bodies.length; i < 17; i++) due("trace " + i, x.trace(i), NONE);
    }

    private static void asksAndTrace() {
        DoorsBook x = told("book 51 1 1;line 0 listed 3 9 ab age 30;line 0 rated 3 8 abc;line 0 counted 3 7 abcd age 40;"
            + "line 0 trade 3 6 abcde;line 0 stale 3 5 abcdef;line 0 counted 2 4 a;order 60 3 9 90;");
        asked(x, 0, 0, 2 + 9, 11, 10);
        asked(x, 0, 1, 50 + 3, 21, 20);
        asked(x, 1, 0, 2 * (3 + 8), 12, 11, 10);
        asked(x, 1, 1, 50 + 3, 21, 20);
        asked(x, 2, 0, 4 + 7 + 50 + 3 + 40, 13, 11, 10, 22, 21, 20);
        asked(x, 2, 1, 50 + 3 + 40, 22, 21, 20);
        asked(x, 3, 0, 5, 10);
        asked(x, 3, 1, 50 + 5, 23, 20, 10);
        asked(x, 4, 0, -6, 14, 10);
        asked(x, 4, 1, 50, 20);
        asked(x, 5, 0, 1 + 4 + 50 + 2, 13, 11, 10, 22, 21, 20);
        for (int bad : new int[] {-1, 6, MAX, MIN}) due("LINE", x.ask(bad, 0), BAD);
        for (int bad : new int[] {-1, 2, MAX, MIN}) due("what", x.ask(0, bad), BAD);
        due("THE TRACE of the ask ahead", x.trace(3), 22);
        for (int bad : new int[] {-1, 6, 16, MAX, MIN}) due("trace", x.trace(bad), NONE);
        x.as(4, 0);
        asked(x, 4, 0, -6, 14, 10);
    }

    // ---- promise 29

    private static void counts() {
        DoorsBook x = told("book 50 0 1;book 60 0 1;line 0 listed 0 1 a;line 0 rated 0 1 a;line 0 counted 0 1 a;line 0 trade 0 1 a;"
            + "line 0 stale 0 1 a;order 60 0 9 8;order 60 0 9 8;order 60 0 9 8;house 0 1 51 52;");
        x.sheet(4, 0, 0);
        x.feed(0, 3);
        long[] all = new long[8];
        for (int what = 0; what < 8; what++) all[what] = x.count(what);
        row("counts", all, 1, 2, 5, 3, 1, 3, 5, 3);
        for (int bad : new int[] {-1, 8, MAX, MIN}) due("what", x.count(bad), BAD);
    }

    // ---- promise 30

    private static void statusAfter(DoorsBook x, String call, long answer, long want, int status) {
        due(call, answer, want);
        due("status() after " + call, x.status(), status);
    }

    private static void statusOfSheetCalls() {
        DoorsBook x = told("book 50 0 1;line 0 trade 0 1 a;");
        statusAfter(x, "sheet", x.sheet(0, 0, -1), SIZE, 4);
        statusAfter(x, "BAD", x.sheet(0, 0, 61), BAD, 4);
        statusAfter(x, "set", x.set(0, 0, 0), NULL, 1);
        statusAfter(x, "BAD", x.set(8, 0, 0), BAD, 1);
        statusAfter(x, "sheet", x.sheet(0, 2, 3), 3, 0);
        statusAfter(x, "set", x.set(0, 3, 0), PLACE, 2);
        statusAfter(x, "other calls", x.count(0) + x.line(0, 0) + x.today(0, 1, 1), 2, 2);
        statusAfter(x, "FULL, BAD of a text", x.feed(0, 0), BAD, 2);
        statusAfter(x, "read", x.read(), 1, 2);
        statusAfter(x, "set", x.set(0, 0, 0), 0, 0);
        statusAfter(x, "as", x.as(0, 1), KIND, 3);
        statusAfter(x, "copy", x.copy(0, 0, 0, 0, 1), 1, 0);
        x.sheet(1, 1, 3);
        statusAfter(x, "copy", x.copy(0, 0, 1, 0, 1), STORE, 5);
        statusAfter(x, "drop", x.drop(1), 3, 0);
        statusAfter(x, "drop", x.drop(1), NULL, 1);
        statusAfter(x, "as", x.as(0, 4), 1, 0);
        statusAfter(x, "walks", x.walks(0, 1, 1), PLACE, 2);
        statusAfter(x, "walks", x.walks(0, 0, 1), BAD, 2);
        x.set(0, 1, 1);
        statusAfter(x, "ask", x.ask(9, 9), BAD, 0);
        statusAfter(x, "as", x.as(0, 5), KIND, 3);
        statusAfter(x, "walks", x.walks(0, 0, 1), 0, 0);
    }
}
