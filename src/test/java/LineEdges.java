/** Boundary cases of LINES and their NAMES: promises 9 to 11. */
final class LineEdges {
    private static final int[] NO_WHATS = {-1, Edge.MAX, Edge.MIN};

    private final Edge edge;

    LineEdges(Edge edge) {
        this.edge = edge;
    }

    void run() {
        firstAndLastLine();
        lineRefuses();
        partsOfALine();
        housesAreOfToday();
        doorOfALine();
        homelessByHouses();
        homelessInNone();
        earAsANumber();
        earRefuses();
        earCodes();
        earWithoutZeros();
        earOfThree();
        handAtLeast();
        likeByHandOrEar();
        alikeRefuses();
        agesNoMoreThanTwoAway();
        agesOfOneYear();
        withoutAges();
        homesAtTwoDoors();
        withItself();
    }

    // ---- promise 9

    private static long[] all(DoorsBook x, int line) {
        long[] answers = new long[9];
        for (int what = 0; what < 9; what++) answers[what] = x.line(line, what);
        return answers;
    }

    private void firstAndLastLine() {
        edge.sentence(9, "Of a LINE: 0 BOOK, 1 SORT, 2 STREET, 3 number, 4 age (NONE), 5 GATHERED, 6 its DOOR's number, "
            + "7 whether it is HOMELESS (1, 0), 8 how many letters.");
        DoorsBook x = edge.told("book 1 0 1;".repeat(9) + "book 9998 9 99;line 0 listed 0 1 a age 0;"
            + "line 9 trade 1 2 ab;".repeat(10) + "line 9 stale 3 99 abcdefgh age 120;");
        edge.row("the least of all", all(x, 0), 0, 0, 0, 1, 0, 1, 1, 0, 1);
        edge.row("the most of all", all(x, 11), 9, 4, 3, 99, 120, 9989, 99, 0, 8);
        edge.row("without an age", all(x, 10), 9, 3, 1, 2, Edge.NONE, 9989, 2, 0, 2);
    }

    private void lineRefuses() {
        edge.sentence(9, "8 how many letters. BAD.");
        DoorsBook x = edge.told("book 1 0 1;line 0 trade 0 1 a;line 0 trade 0 1 a;");
        for (int bad : Edge.ints(-1, 2, 11, 12, Edge.MAX, Edge.MIN)) {
            for (int what = 0; what < 9; what++) edge.due("no such LINE", x.line(bad, what), Edge.BAD);
        }
        for (int bad : NO_WHATS) edge.due("what", x.line(0, bad), Edge.BAD);
        edge.due("what", x.line(0, 9), Edge.BAD);
        edge.due("both", x.line(2, 9), Edge.BAD);
    }

    /** Each part of a LINE differs from the others, so that none can stand for another. */
    private void partsOfALine() {
        edge.sentence(Edge.TERMS, "LINES 0 .. 11, as they are told: a BOOK, a SORT (0 listed, 1 rated, 2 counted, 3 trade, 4 stale), a STREET, a number, "
            + "a NAME (1 to 8 letters), an age (0 to 120) or none (NONE).");
        DoorsBook x = edge.told("book 50 0 1;book 62 1 1;book 73 2 1;line 2 listed 3 41 abcde age 17;line 1 stale 0 99 ab;line 0 counted 2 1 abcdefgh age 120;");
        edge.row("the first", parts(x, 0), 2, 0, 3, 41, 17, 71, 41, 0, 5);
        edge.row("the second", parts(x, 1), 1, 4, 0, 99, Edge.NONE, 61, 99, 0, 2);
        edge.row("the third", parts(x, 2), 0, 2, 2, 1, 120, 50, 1, 0, 8);
        edge.row("no fourth", parts(x, 3), Edge.BAD, Edge.BAD, Edge.BAD, Edge.BAD, Edge.BAD, Edge.BAD, Edge.BAD, Edge.BAD, Edge.BAD);
    }

    private static long[] parts(DoorsBook x, int line) {
        long[] all = new long[9];
        for (int what = 0; what < 9; what++) all[what] = x.line(line, what);
        return all;
    }

    private void housesAreOfToday() {
        edge.sentence(Edge.TERMS, "HOUSES, as they are told (20 at most): a STREET, a number (of today), from a year to another one (not among them).");
        DoorsBook x = edge.told("book 50 0 1;book 70 0 1;order 60 2 3 4;order 60 2 4 8;house 2 8 60 80;"
            + "line 0 trade 2 3 a;line 0 trade 2 8 a;line 1 trade 2 3 a;line 1 trade 2 4 a;line 1 trade 2 8 a;line 0 trade 1 3 a;line 0 trade 1 8 a;");
        edge.row("at its number of today, of whatever year the LINE is", Edge.of(x.line(0, 7), x.line(1, 7), x.line(4, 7)), 1, 1, 0);
        edge.row("not at a number of old", Edge.of(x.line(2, 7), x.line(3, 7)), 0, 0);
        edge.row("not on another STREET", Edge.of(x.line(5, 7), x.line(6, 7)), 0, 0);
    }

    private void doorOfALine() {
        edge.sentence(Edge.TERMS, "THE DOOR of a LINE: STREET and TODAY of its number of its BOOK's GATHERED.");
        DoorsBook x = edge.told("book 52 2 1;book 50 0 1;book 51 0 1;line 0 trade 0 1 a;line 1 trade 0 1 a;line 2 trade 0 1 a;"
            + "line 0 trade 1 1 a;order 51 0 1 9;");
        edge.row("an ORDER of the year behind GATHERED, not behind the BOOK's year",
            Edge.of(x.line(0, 6), x.line(1, 6), x.line(2, 6), x.line(3, 6)), 9, 9, 1, 1);
        edge.due("its own number is as told", x.line(0, 3), 1);
    }

    private void homelessByHouses() {
        edge.sentence(Edge.TERMS, "from a year to another one (not among them).");
        DoorsBook x = edge.told("book 49 0 1;book 50 0 1;book 59 0 1;book 60 0 1;line 0 trade 0 5 a;line 1 trade 0 5 a;"
            + "line 2 trade 0 5 a;line 3 trade 0 5 a;house 0 5 50 60;");
        edge.row("one ahead, from, the last, to", Edge.of(x.line(0, 7), x.line(1, 7), x.line(2, 7), x.line(3, 7)), 1, 0, 0, 1);
        edge.tell(x, "house 0 5 60 61;");
        edge.due("one house behind another", x.line(3, 7), 0);
        edge.tell(x, "house 0 5 1 9999;");
        edge.due("all years", x.count(6), 0);
        DoorsBook y = edge.told("book 9998 0 1;book 1 0 1;line 0 trade 0 5 a;line 1 trade 0 5 a;house 0 5 1 2;");
        edge.row("the first year alone", Edge.of(y.line(0, 7), y.line(1, 7)), 1, 0);
        edge.tell(y, "house 0 5 9998 9999;");
        edge.row("the last year, too", Edge.of(y.line(0, 7), y.line(1, 7)), 0, 0);
    }

    private void homelessInNone() {
        edge.sentence(Edge.TERMS, "HOMELESS is a LINE, if there are HOUSES at its DOOR, and GATHERED is in none.");
        DoorsBook x = edge.told("book 50 0 1;line 0 trade 0 5 a;line 0 trade 0 6 a;line 0 trade 1 5 a;line 0 trade 0 7 a;");
        edge.due("no HOUSES at all", x.count(6), 0);
        edge.tell(x, "house 0 5 51 52;");
        edge.row("no HOUSES at the others", Edge.of(x.line(0, 7), x.line(1, 7), x.line(2, 7), x.line(3, 7)), 1, 0, 0, 0);
        edge.tell(x, "order 51 0 7 5;");
        edge.due("by the number of today", x.line(3, 7), 1);
        edge.tell(x, "order 52 0 5 8;");
        edge.row("no more by the number of today", Edge.of(x.line(0, 7), x.line(3, 7)), 0, 0);
        edge.due("count", x.count(6), 0);
        DoorsBook y = edge.told("book 50 0 1;line 0 trade 3 99 a;line 0 trade 0 99 a;house 3 99 1 50;");
        edge.row("of the last STREET", Edge.of(y.line(0, 7), y.line(1, 7)), 1, 0);
    }

    // ---- promise 10

    private int ear(String name) {
        return edge.told("book 9 0 1;line 0 trade 0 1 " + name + ";").ear(0);
    }

    private void earAsANumber() {
        edge.sentence(10, "EAR of a LINE's NAME: the first letter (0 to 25) times 1000, and the codes as three figures, 0s behind.");
        edge.due("a", ear("a"), 0);
        edge.due("z", ear("z"), 25000);
        edge.due("one code", ear("zb"), 25100);
        edge.due("two codes", ear("zbr"), 25160);
        edge.due("three codes", ear("zrbr"), 25616);
        edge.due("the greatest", ear("zrnr"), 25656);
        for (int letter = 0; letter < 26; letter++) {
            edge.due("first letter " + letter, ear("" + (char) ('a' + letter)), 1000 * letter);
        }
    }

    private void earRefuses() {
        edge.sentence(10, "0s behind. BAD.");
        DoorsBook x = edge.told("book 9 0 1;line 0 trade 0 1 a;line 0 trade 0 1 b;");
        edge.row("the LINES", Edge.of(x.ear(0), x.ear(1)), 0, 1000);
        for (int bad : Edge.ints(-1, 2, 12, Edge.MAX, Edge.MIN)) edge.due("no such LINE", x.ear(bad), Edge.BAD);
    }

    private void earCodes() {
        edge.sentence(Edge.TERMS, "EAR of a NAME: its first letter; then for each letter behind: 1 for b f p v, 2 for c g j k q s x z, 3 for d t, 4 for l, 5 for m n, 6 for r, 0 for others");
        String[] groups = {"aehiouwy", "bfpv", "cgjkqsxz", "dt", "l", "mn", "r"};
        for (int code = 0; code < groups.length; code++) {
            for (char letter : groups[code].toCharArray()) edge.due("a" + letter, ear("a" + letter), 100 * code);
        }
    }

    private void earWithoutZeros() {
        edge.sentence(Edge.TERMS, "without 0s; of like ones side by side (0s taken out first) one");
        edge.due("0s alone", ear("aaaaaaaa"), 0);
        edge.due("side by side", ear("abb"), 100);
        edge.due("side by side by code", ear("abfpvbfp"), 100);
        edge.due("side by side without the 0s", ear("abab"), 100);
        edge.due("not side by side", ear("abdb"), 131);
        edge.due("not by the first letter", ear("bb"), 1100);
        edge.due("not by the first letter", ear("bab"), 1100);
    }

    private void earOfThree() {
        edge.sentence(Edge.TERMS, "three of these at most.");
        edge.due("three", ear("abdl"), 134);
        edge.due("four", ear("abdlm"), 134);
        edge.due("seven", ear("abdbdbdb"), 131);
        edge.due("like ones do not count twice", ear("abbddllm"), 134);
        edge.due("three in the last letters", ear("aeiouldr"), 436);
        DoorsBook x = edge.told("book 9 0 1;");
        edge.faulty(x, "line 0 trade 0 1 abdlmr;x", 24, 1);
        edge.tell(x, "line 0 trade 0 1 a;");
        edge.row("letters that did not come are not behind it", Edge.of(x.ear(0), x.line(0, 8)), 0, 1);
    }

    // ---- promise 11

    private DoorsBook pair(String a, String b) {
        return edge.told("book 9 0 1;line 0 trade 0 1 " + a + ";line 0 trade 0 1 " + b + ";");
    }

    private void hand(String a, String b, int due) {
        DoorsBook x = pair(a, b);
        edge.row(a + ", " + b, Edge.of(x.alike(0, 1, 0), x.alike(1, 0, 0), x.alike(0, 0, 0)), due, due, 0);
    }

    private void handAtLeast() {
        edge.sentence(Edge.TERMS, "HAND of two NAMES: how many letters must be changed, put in or taken out, at least, to make the one the other.");
        hand("a", "a", 0);
        hand("a", "b", 1);
        hand("a", "ab", 1);
        hand("a", "ba", 1);
        hand("ab", "ba", 2);
        hand("a", "bcdefghi", 8);
        hand("a", "abcdefgh", 7);
        hand("abcdefgh", "ijklmnop", 8);
        hand("abcdefgh", "abcdefgh", 0);
        hand("abcdefgh", "bcdefgh", 1);
        hand("abcdefgh", "bcdefgha", 2);
        hand("abcdefgh", "hgfedcba", 8);
        hand("kitten", "sitting", 3);
    }

    private void likeByHandOrEar() {
        edge.sentence(Edge.TERMS, "LIKE: EARS are the same, or HAND is 1 or less.");
        String[][] names = {{"lee", "lee", "0", "1"}, {"a", "b", "1", "1"}, {"b", "ab", "1", "1"}, {"ab", "ba", "2", "0"},
            {"bab", "bcb", "1", "1"}, {"bab", "bcd", "2", "0"}, {"robert", "rupert", "2", "1"}, {"a", "aeiouhwy", "7", "1"},
            {"abdlbbbb", "abdlrrrr", "4", "1"}, {"abdl", "abdr", "1", "1"}, {"abdla", "abdrb", "2", "0"}};
        for (String[] n : names) {
            DoorsBook x = pair(n[0], n[1]);
            edge.row(n[0] + ", " + n[1], Edge.of(x.alike(0, 1, 0), x.alike(0, 1, 1), x.alike(1, 0, 1)),
                Integer.parseInt(n[2]), Integer.parseInt(n[3]), Integer.parseInt(n[3]));
        }
    }

    private void alikeRefuses() {
        edge.sentence(11, "HAND of two LINES' NAMES (what = 0), whether they are LIKE (1), whether they MAY be one (2). BAD.");
        DoorsBook x = pair("a", "b");
        for (int what = 0; what < 3; what++) {
            for (int bad : Edge.ints(-1, 2, 12, Edge.MAX, Edge.MIN)) {
                edge.due("a", x.alike(bad, 0, what), Edge.BAD);
                edge.due("b", x.alike(0, bad, what), Edge.BAD);
                edge.due("both", x.alike(bad, bad, what), Edge.BAD);
            }
        }
        for (int bad : NO_WHATS) edge.due("what", x.alike(0, 1, bad), Edge.BAD);
        edge.due("what", x.alike(0, 1, 3), Edge.BAD);
        edge.due("all is well", x.alike(1, 0, 2), 1);
    }

    // ---- who MAY be one

    /** BOOK 0 is GATHERED in 1850, BOOK 1 in 1860, though its year is 1862. */
    private void may(String a, String b, int due) {
        DoorsBook x = edge.told("book 1850 0 1;book 1862 2 1;line " + a + ";line " + b + ";");
        edge.row(a + ", " + b, Edge.of(x.alike(0, 1, 2), x.alike(1, 0, 2)), due, due);
    }

    private void agesNoMoreThanTwoAway() {
        edge.sentence(Edge.TERMS, "if both have ages, the age at the later GATHERED less the other one is no more than 2 away "
            + "from the years between the two");
        for (int later = 26; later <= 54; later++) {
            int due = later >= 48 && later <= 52 ? 1 : 0;
            may("0 trade 0 1 lee age 40", "1 trade 0 1 lee age " + later, due);
            may("1 trade 0 1 lee age " + later, "0 trade 0 1 lee age 40", due);
        }
        may("0 trade 0 1 lee age 0", "1 trade 0 1 lee age 7", 0);
        may("0 trade 0 1 lee age 0", "1 trade 0 1 lee age 8", 1);
        may("0 trade 0 1 lee age 108", "1 trade 0 1 lee age 120", 1);
        may("0 trade 0 1 lee age 107", "1 trade 0 1 lee age 120", 0);
    }

    private void agesOfOneYear() {
        edge.sentence(Edge.TERMS, "is no more than 2 away from the years between the two");
        for (int other = 36; other <= 44; other++) {
            may("0 trade 0 1 lee age 40", "0 trade 0 1 lee age " + other, Math.abs(other - 40) <= 2 ? 1 : 0);
        }
        DoorsBook x = edge.told("book 1 0 1;book 9998 0 1;line 0 trade 0 1 lee age 0;line 1 trade 0 1 lee age 120;");
        edge.due("all years between", x.alike(0, 1, 2), 0);
    }

    private void withoutAges() {
        edge.sentence(Edge.TERMS, "if both have ages");
        may("0 trade 0 1 lee", "1 trade 0 1 lee age 120", 1);
        may("0 trade 0 1 lee age 120", "1 trade 0 1 lee", 1);
        may("0 trade 0 1 lee", "0 trade 0 1 lee", 1);
        may("0 trade 0 1 lee age 0", "0 trade 0 1 lee age 120", 0);
        edge.sentence(Edge.TERMS, "TWO LINES MAY be one person: NAMES are LIKE;");
        may("0 trade 0 1 lee", "0 trade 0 1 jones", 0);
        may("0 trade 0 1 lee", "0 trade 0 1 leep", 1);
        may("0 trade 0 1 lee", "0 trade 0 1 leepp", 0);
        may("0 trade 0 1 lee", "0 trade 0 1 leewhy", 1);
    }

    private void homesAtTwoDoors() {
        edge.sentence(Edge.TERMS, "and not both a HOME of one GATHERED at two DOORS.");
        String[] sorts = {"listed", "rated", "counted", "trade", "stale"};
        for (int a = 0; a < 5; a++) {
            for (int b = 0; b < 5; b++) {
                int due = a < 3 && b < 3 ? 0 : 1;
                may("0 " + sorts[a] + " 0 1 lee", "0 " + sorts[b] + " 0 2 lee", due);
                may("0 " + sorts[a] + " 0 1 lee", "0 " + sorts[b] + " 1 1 lee", due);
                may("0 " + sorts[a] + " 0 1 lee", "0 " + sorts[b] + " 0 1 lee", 1);
                may("0 " + sorts[a] + " 0 1 lee", "1 " + sorts[b] + " 0 2 lee", 1);
            }
        }
        DoorsBook x = edge.told("book 50 0 1;book 51 1 1;line 0 listed 0 1 lee;line 1 listed 0 2 lee;");
        edge.due("two BOOKS of one GATHERED", x.alike(0, 1, 2), 0);
        edge.tell(x, "order 50 0 1 2;");
        edge.due("an ORDER of that year does not count", x.alike(0, 1, 2), 0);
        edge.tell(x, "order 51 0 1 2;");
        edge.due("one DOOR by an ORDER of the next", x.alike(0, 1, 2), 1);
    }

    private void withItself() {
        edge.sentence(Edge.TERMS, "(A LINE may be with itself.)");
        DoorsBook x = edge.told("book 50 0 1;line 0 listed 0 1 lee age 120;line 0 stale 0 1 a;");
        edge.row("each", Edge.of(x.alike(0, 0, 2), x.alike(1, 1, 2), x.alike(0, 0, 1), x.alike(1, 1, 0)), 1, 1, 1, 0);
    }
}
