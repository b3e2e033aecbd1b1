/** Boundary cases of PERSONS: promises 15 to 18. */
final class PersonEdges {
    private final Edge edge;

    PersonEdges(Edge edge) {
        this.edge = edge;
    }

    void run() {
        withoutLines();
        joinedRefuses();
        oneAndTwelveLines();
        everyTwoMayBeOne();
        manyRivals();
        theFirst();
        thenTheNextPerson();
        personRefuses();
        sureOfTwo();
        sureOfOneWay();
        sureRefuses();
        askedFirst();
        joinedAnew();
        stayRefuses();
        allAreStale();
        stayAtThatDoor();
        cameAndLeft();
        cameAndLeftBesides();
    }

    private static long[] joined(DoorsBook x) {
        return Edge.of(x.joined(0), x.joined(1), x.joined(2));
    }

    private static long[] persons(DoorsBook x) {
        long[] all = new long[x.count(2)];
        for (int line = 0; line < all.length; line++) all[line] = x.person(line);
        return all;
    }

    // ---- promise 15

    private void withoutLines() {
        edge.sentence(15, "(Without LINES 0, 1, 0.)");
        edge.row("a new object", joined(new DoorsBook()), 0, 1, 0);
        edge.row("each as the first call", Edge.of(new DoorsBook().joined(1), new DoorsBook().joined(2)), 1, 0);
        edge.row("BOOKS alone", joined(edge.told("book 50 0 1;order 50 0 1 2;house 0 1 1 2;")), 0, 1, 0);
    }

    private void joinedRefuses() {
        edge.sentence(15, "JOINED: 0 how many PERSONS, 1 RIVALS, 2 the greatest PERSON of THE FIRST, how many LINES. BAD as a long.");
        DoorsBook x = edge.told("book 50 0 1;line 0 trade 0 1 a;");
        for (int bad : Edge.ints(-1, 3, Edge.MAX, Edge.MIN)) {
            edge.due("what, with a LINE", x.joined(bad), -1000001L);
            edge.due("what, without LINES", new DoorsBook().joined(bad), -1000001L);
        }
    }

    private void oneAndTwelveLines() {
        edge.sentence(Edge.TERMS, "JOINED: all LINES parted into PERSONS, each two LINES of one of which MAY be one, with the fewest PERSONS.");
        edge.row("one LINE", joined(edge.told("book 50 0 1;line 0 trade 0 1 a;")), 1, 1, 1);
        DoorsBook one = edge.told("book 50 0 1;" + "line 0 trade 0 1 a;".repeat(12));
        edge.row("twelve, one PERSON", joined(one), 1, 1, 12);
        edge.due("its number", one.person(11), 4095);
        StringBuilder names = new StringBuilder("book 50 0 1;");
        StringBuilder doors = new StringBuilder("book 50 0 1;");
        for (int k = 0; k < 12; k++) {
            names.append("line 0 trade 0 1 ").append((char) ('a' + k)).append("bdl;");
            doors.append("line 0 listed 0 ").append(k + 1).append(" lee;");
        }
        edge.row("twelve by HAND alone, one PERSON", joined(edge.told(names.toString())), 1, 1, 12);
        DoorsBook homes = edge.told(doors.toString());
        edge.row("twelve homes at once", joined(homes), 12, 1, 1);
        for (int k = 0; k < 12; k++) edge.due("each alone", homes.person(k), 1 << k);
    }

    private void everyTwoMayBeOne() {
        edge.sentence(Edge.TERMS, "each two LINES of one of which MAY be one");
        DoorsBook x = edge.told("book 50 0 1;line 0 trade 0 1 a;line 0 trade 0 1 ab;line 0 trade 0 1 abd;");
        edge.row("a MAY be ab, and ab abd, but not a abd", Edge.of(x.alike(0, 1, 2), x.alike(1, 2, 2), x.alike(0, 2, 2)), 1, 1, 0);
        edge.row("two PERSONS, two ways", joined(x), 2, 2, 2);
        DoorsBook ages = edge.told("book 50 0 1;line 0 trade 0 1 a age 30;line 0 trade 0 1 a age 32;line 0 trade 0 1 a age 34;line 0 trade 0 1 a;");
        edge.row("30, 32, 34 and none", joined(ages), 2, 4, 3);
    }

    /** Five homes at once cannot be one; each of seven others can be any of the five. */
    private void manyRivals() {
        edge.sentence(Edge.TERMS, "RIVALS: how many ways there are with so few.");
        DoorsBook x = edge.told("book 50 0 1;line 0 listed 0 1 lee;line 0 listed 0 2 lee;line 0 listed 0 3 lee;line 0 listed 0 4 lee;"
            + "line 0 listed 0 5 lee;" + "line 0 trade 0 1 lee;".repeat(7));
        edge.row("five to the power seven", joined(x), 5, 78125, 8);
        edge.row("SURE", Edge.of(x.sure(0, 0), x.sure(11, 11), x.sure(0, 1), x.sure(0, 11), x.sure(5, 11)), 78125, 78125, 0, 15625, 15625);
        edge.row("THE FIRST: the last home has all others", Edge.of(x.person(0), x.person(3), x.person(4), x.person(11)), 1, 8, 4080, 4080);
        DoorsBook y = edge.told("book 50 0 1;" + "line 0 trade 0 1 lee;".repeat(6) + "line 0 listed 0 1 lee;line 0 listed 0 2 lee;"
            + "line 0 listed 0 3 lee;line 0 listed 0 4 lee;line 0 listed 0 5 lee;line 0 listed 0 6 lee;");
        edge.row("six to the power six", joined(y), 6, 46656, 2);
        edge.row("THE FIRST: each with a home of its own, as 65 is less than 67", Edge.of(y.person(0), y.person(5), y.person(6), y.person(7)), 65, 2080, 65, 130);
    }

    // ---- promise 16

    private void theFirst() {
        edge.sentence(Edge.TERMS, "THE FIRST: of these that in which the PERSON of LINE 0 is least as a number (LINE k: 2 to the power k)");
        DoorsBook x = edge.told("book 50 0 1;line 0 trade 0 1 a;line 0 trade 0 1 ab;line 0 trade 0 1 abd;");
        edge.row("0 alone: 1 is less than 3", persons(x), 1, 6, 6);
        DoorsBook y = edge.told("book 50 0 1;line 0 trade 0 1 ab;line 0 trade 0 1 a;line 0 trade 0 1 abd;");
        edge.row("0 with 1: 3 is less than 5", persons(y), 3, 3, 4);
        DoorsBook z = edge.told("book 50 0 1;line 0 trade 0 1 ab;line 0 trade 0 1 abd;line 0 trade 0 1 a;");
        edge.row("0 with 1: 3 is less than 5", persons(z), 3, 3, 4);
    }

    private void thenTheNextPerson() {
        edge.sentence(Edge.TERMS, "then that of the first LINE not in it, ..");
        DoorsBook x = edge.told("book 50 0 1;line 0 trade 0 1 zzz;line 0 trade 0 1 a;line 0 trade 0 1 ab;line 0 trade 0 1 abd;");
        edge.row("1 alone: 2 is less than 6", persons(x), 1, 2, 12, 12);
        DoorsBook y = edge.told("book 50 0 1;line 0 trade 0 1 a;line 0 trade 0 1 ab;line 0 trade 0 1 abd;line 0 trade 0 1 abdl;line 0 trade 0 1 abdlm;");
        edge.row("a chain of five", persons(y), 1, 6, 6, 24, 24);
        edge.row("three ways", joined(y), 3, 3, 2);
    }

    private void personRefuses() {
        edge.sentence(16, "The PERSON of a LINE in THE FIRST, as a number. BAD.");
        DoorsBook x = edge.told("book 50 0 1;line 0 trade 0 1 a;line 0 trade 0 1 a;");
        edge.row("the LINES", persons(x), 3, 3);
        for (int bad : Edge.ints(-1, 2, 12, 32, Edge.MAX, Edge.MIN)) {
            edge.due("no such LINE", x.person(bad), Edge.BAD);
            edge.due("no LINE at all", new DoorsBook().person(bad), Edge.BAD);
        }
    }

    // ---- promise 17

    private void sureOfTwo() {
        edge.sentence(Edge.TERMS, "SURE of two LINES: in how many RIVALS they are one person.");
        DoorsBook x = edge.told("book 50 0 1;line 0 trade 0 1 a;line 0 trade 0 1 ab;line 0 trade 0 1 abd;line 0 trade 0 1 zzz;");
        edge.row("each two", Edge.of(x.sure(0, 1), x.sure(1, 0), x.sure(1, 2), x.sure(2, 1), x.sure(0, 2), x.sure(0, 3), x.sure(3, 2)),
            1, 1, 1, 1, 0, 0, 0);
        DoorsBook all = edge.told("book 50 0 1;" + "line 0 trade 0 1 a;".repeat(12));
        edge.row("always", Edge.of(all.sure(0, 11), all.sure(11, 0), all.sure(5, 6)), 1, 1, 1);
        DoorsBook less = edge.told("book 50 0 1;line 0 trade 0 1 a;line 0 trade 0 1 ab;line 0 trade 0 1 abd;line 0 trade 0 1 abdl;");
        edge.row("MAY be one, but not with the fewest", Edge.of(less.alike(1, 2, 2), less.sure(1, 2), less.sure(0, 1), less.sure(2, 3)), 1, 0, 1, 1);
    }

    /** LINE 0 MAY be 1 or 2, but not both; 2 MAY be 3: two PERSONS in one way alone. */
    private void sureOfOneWay() {
        edge.sentence(Edge.TERMS, "in how many RIVALS they are one person.");
        DoorsBook x = edge.told("book 50 0 1;line 0 trade 0 1 ab;line 0 trade 0 1 a;line 0 trade 0 1 abd;line 0 trade 0 1 abdl;");
        edge.row("two PERSONS", joined(x), 2, 1, 2);
        edge.row("each two", Edge.of(x.sure(0, 1), x.sure(2, 3), x.sure(0, 2), x.sure(1, 2), x.sure(0, 3), x.sure(1, 3)), 1, 1, 0, 0, 0, 0);
    }

    private void sureRefuses() {
        edge.sentence(17, "SURE of two LINES. BAD as a long (the same is well: all RIVALS).");
        DoorsBook x = edge.told("book 50 0 1;line 0 trade 0 1 a;line 0 trade 0 1 ab;line 0 trade 0 1 abd;");
        edge.row("the same", Edge.of(x.sure(0, 0), x.sure(1, 1), x.sure(2, 2)), 2, 2, 2);
        for (int bad : Edge.ints(-1, 3, 12, 32, Edge.MAX, Edge.MIN)) {
            edge.due("a", x.sure(bad, 0), -1000001L);
            edge.due("b", x.sure(0, bad), -1000001L);
            edge.due("the same, but no LINE", x.sure(bad, bad), -1000001L);
        }
    }

    /** Whichever call comes first works JOINED out. */
    private void askedFirst() {
        edge.sentence(15, "JOINED: 0 how many PERSONS, 1 RIVALS, 2 the greatest PERSON of THE FIRST");
        String text = "book 50 0 1;line 0 trade 0 1 a;line 0 trade 0 1 ab;line 0 trade 0 1 abd;";
        edge.due("PERSONS", edge.told(text).joined(0), 2);
        edge.due("RIVALS", edge.told(text).joined(1), 2);
        edge.due("the greatest", edge.told(text).joined(2), 2);
        edge.due("the PERSON", edge.told(text).person(2), 6);
        edge.due("SURE", edge.told(text).sure(0, 1), 1);
        edge.due("SURE of the same", edge.told(text).sure(0, 0), 2);
        edge.due("STAY", edge.told(text).stay(1, 3), 9999);
    }

    /** What was worked out for fewer LINES or ORDERS does not stay. */
    private void joinedAnew() {
        edge.sentence(Edge.TERMS, "JOINED: all LINES parted into PERSONS");
        DoorsBook x = edge.told("book 50 0 1;line 0 listed 0 1 lee;");
        edge.row("one", joined(x), 1, 1, 1);
        edge.tell(x, "line 0 listed 0 2 lee;");
        edge.row("two", joined(x), 2, 1, 1);
        edge.tell(x, "order 51 0 2 1;");
        edge.row("one by an ORDER", joined(x), 1, 1, 2);
        edge.faulty(x, "line 0 listed 0 9 lee;order 51 0 1 8;x", 37, 1);
        edge.row("what did not come does not count", joined(x), 1, 1, 2);
        edge.tell(x, "order 52 0 1 7;book 60 0 1;house 0 1 1 2;");
        edge.row("still one DOOR", joined(x), 1, 1, 2);
        edge.tell(x, "line 1 trade 0 1 zzz;");
        edge.row("another", joined(x), 2, 1, 2);
        DoorsBook y = edge.told("book 50 0 1;line 0 listed 0 1 lee;line 0 listed 0 2 lee;order 55 0 2 1;");
        edge.row("one DOOR", joined(y), 1, 1, 2);
        edge.tell(y, "order 52 0 2 7;");
        edge.row("two DOORS by an earlier ORDER, told later", joined(y), 2, 1, 1);
        edge.row("each alone", persons(y), 1, 2);
        edge.due("no more", y.sure(0, 1), 0);
        DoorsBook z = edge.told("book 50 0 1;line 0 listed 0 1 lee;line 0 listed 0 2 lee;line 0 trade 0 1 zzz;line 0 trade 0 1 zzz;");
        edge.row("SURE of the others", Edge.of(z.joined(0), z.sure(2, 3)), 3, 1);
        edge.tell(z, "order 51 0 2 1;");
        edge.row("SURE of the others anew", Edge.of(z.joined(0), z.sure(2, 3), z.sure(0, 1)), 2, 1, 1);
    }

    // ---- promise 18

    private static long[] stay(DoorsBook x, int line) {
        return Edge.of(x.stay(line, 0), x.stay(line, 1), x.stay(line, 2), x.stay(line, 3));
    }

    private void stayRefuses() {
        edge.sentence(18, "STAY: FIRST (what = 0), LAST (1), CAME (2), LEFT (3); NONE. BAD.");
        DoorsBook x = edge.told("book 50 0 1;line 0 trade 0 1 a;line 0 stale 0 9 zzz;");
        edge.row("one LINE", stay(x, 0), 50, 50, 0, 9999);
        for (int bad : Edge.ints(-1, 2, 12, Edge.MAX, Edge.MIN)) {
            for (int what = 0; what < 4; what++) edge.due("no such LINE", x.stay(bad, what), Edge.BAD);
        }
        for (int bad : Edge.ints(-1, 4, Edge.MAX, Edge.MIN)) {
            edge.due("what", x.stay(0, bad), Edge.BAD);
            edge.due("what, ahead of NONE", x.stay(1, bad), Edge.BAD);
        }
    }

    private void allAreStale() {
        edge.sentence(Edge.TERMS, "FIRST, LAST (NONE: all are STALE).");
        DoorsBook x = edge.told("book 50 0 1;book 60 0 1;line 0 stale 0 1 lee;line 1 stale 0 1 lee;line 0 trade 0 2 lee;");
        edge.due("one PERSON", x.person(0), 7);
        edge.row("all there are STALE", stay(x, 0), Edge.NONE, Edge.NONE, Edge.NONE, Edge.NONE);
        edge.row("the other DOOR", stay(x, 2), 50, 50, 0, 60);
        edge.tell(x, "line 1 trade 0 1 lee;");
        edge.row("one is not", stay(x, 0), 60, 60, 50, 9999);
        edge.row("of a STALE one of the same DOOR", stay(x, 1), 60, 60, 50, 9999);
    }

    private void stayAtThatDoor() {
        edge.sentence(Edge.TERMS, "STAY of the PERSON of a LINE (in THE FIRST) at that LINE's DOOR: GATHERED of its LINES there that are not STALE");
        DoorsBook x = edge.told("book 50 0 1;book 60 0 1;book 70 0 1;line 0 trade 0 1 lee;line 1 trade 0 2 lee;line 2 trade 0 9 lee;"
            + "line 2 trade 1 1 lee;line 0 trade 0 9 zzz;order 55 0 1 9;order 65 0 2 3;");
        edge.row("1 of 50 is 9 of 70; another PERSON there does not count", stay(x, 0), 50, 70, 0, 9999);
        edge.row("the same, asked by the other LINE", stay(x, 2), 50, 70, 0, 9999);
        edge.row("3 of today", stay(x, 1), 60, 60, 50, 70);
        edge.row("another STREET", stay(x, 3), 70, 70, 60, 9999);
        edge.row("the other PERSON", stay(x, 4), 50, 50, 0, 60);
        DoorsBook y = edge.told("book 50 0 1;book 60 0 1;line 0 trade 0 1 a;line 1 trade 0 1 ab;line 1 trade 0 1 abd;");
        edge.row("in THE FIRST, LINE 0 is alone", stay(y, 0), 50, 50, 0, 60);
    }

    private void cameAndLeft() {
        edge.sentence(Edge.TERMS, "CAME: the greatest GATHERED of any BOOK below FIRST, 0 without; LEFT: the least of any BOOK above LAST, 9999 without.");
        DoorsBook x = edge.told("book 50 0 1;line 0 trade 0 1 lee;");
        edge.row("without", stay(x, 0), 50, 50, 0, 9999);
        edge.tell(x, "book 51 1 1;");
        edge.row("one of the same GATHERED is not below, nor above", stay(x, 0), 50, 50, 0, 9999);
        edge.tell(x, "book 1 0 1;book 9998 0 1;");
        edge.row("the first and last years", stay(x, 0), 50, 50, 1, 9998);
        edge.tell(x, "book 52 1 1;book 53 4 1;");
        edge.row("one beside", stay(x, 0), 50, 50, 49, 51);
        edge.tell(x, "book 48 0 1;book 53 0 1;");
        edge.row("the nearest ones, not the latest told", stay(x, 0), 50, 50, 49, 51);
        DoorsBook y = edge.told("book 70 0 1;book 50 0 1;line 1 trade 0 1 lee;");
        edge.due("LEFT by the first BOOK", y.stay(0, 3), 70);
        for (int year : Edge.ints(60, 40)) {
            edge.faulty(y, "book " + year + " 0 1;line 2 trade 0 1 lee;x", 33, 1);
            edge.row("what did not come does not count", stay(y, 0), 50, 50, 0, 70);
        }
    }

    private void cameAndLeftBesides() {
        edge.sentence(Edge.TERMS, "of any BOOK");
        DoorsBook x = edge.told("book 50 0 1;book 60 0 1;book 70 0 1;line 0 trade 0 1 lee;line 2 trade 0 1 lee;line 1 trade 0 2 lee;");
        edge.row("a BOOK between FIRST and LAST is neither", stay(x, 0), 50, 70, 0, 9999);
        edge.row("BOOKS of the other LINES of the PERSON count", stay(x, 2), 60, 60, 50, 70);
        DoorsBook y = edge.told("book 1 0 1;book 9998 0 1;line 0 trade 0 1 lee;line 1 trade 0 2 lee;");
        edge.row("the first year", stay(y, 0), 1, 1, 0, 9998);
        edge.row("the last year", stay(y, 1), 9998, 9998, 1, 9999);
    }
}
