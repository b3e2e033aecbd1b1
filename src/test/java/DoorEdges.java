/** Boundary cases of DOORS: promises 12 to 14. */
final class DoorEdges {
    private final Edge edge;

    DoorEdges(Edge edge) {
        this.edge = edge;
    }

    void run() {
        ordersOfAYearAbove();
        anOrderOnItsStreet();
        byYearsAndAsTold();
        yearsOfToday();
        todayRefuses();
        twoOrdersQuarrel();
        quarrelsWithAnEarlierOne();
        walksOfOneAndTwenty();
        meetingsAtOneDoor();
        walksRefuses();
        walksRefusesPlaces();
        itemsAsOfToday();
    }

    // ---- promise 12

    private void ordersOfAYearAbove() {
        edge.sentence(Edge.TERMS, "TODAY of a STREET's number of a year: ORDERS with a year above that, by years, of one year as they were told, each whose STREET and "
            + "old number are these makes it the new one.");
        DoorsBook x = edge.told("order 50 1 7 8;");
        edge.row("the year ahead, that year, the next", Edge.of(x.today(1, 7, 49), x.today(1, 7, 50), x.today(1, 7, 51)), 8, 7, 7);
        edge.row("other STREETS", Edge.of(x.today(0, 7, 49), x.today(2, 7, 49)), 7, 7);
        edge.row("other numbers", Edge.of(x.today(1, 6, 49), x.today(1, 8, 49)), 6, 8);
        DoorsBook y = edge.told("order 1 0 1 2;order 9998 3 98 99;");
        edge.row("the first year", Edge.of(y.today(0, 1, 0), y.today(0, 1, 1)), 2, 1);
        edge.row("the last year", Edge.of(y.today(3, 98, 9997), y.today(3, 98, 9998), y.today(3, 98, 9999)), 99, 98, 98);
    }

    private void anOrderOnItsStreet() {
        edge.sentence(Edge.TERMS, "ORDERS, as they are told (20 at most): from a year on, on a STREET, an old number is a new one.");
        DoorsBook x = edge.told("order 50 2 7 31;");
        edge.row("until that year, and from it on", Edge.of(x.today(2, 7, 49), x.today(2, 7, 50), x.today(2, 7, 9999)), 31, 7, 7);
        for (int street : Edge.ints(0, 1, 3)) edge.due("on STREET " + street, x.today(street, 7, 49), 7);
        edge.row("the new one is no old one", Edge.of(x.today(2, 31, 49), x.today(2, 50, 6)), 31, 50);
        DoorsBook y = edge.told("order 50 0 1 99;order 50 3 99 1;");
        edge.row("the least and the greatest number", Edge.of(y.today(0, 1, 0), y.today(3, 99, 0), y.today(0, 99, 0), y.today(3, 1, 0)), 99, 1, 99, 1);
    }

    private void byYearsAndAsTold() {
        edge.sentence(Edge.TERMS, "by years, of one year as they were told");
        DoorsBook x = edge.told("order 60 0 2 3;order 50 0 1 2;");
        edge.due("the earlier year, told later", x.today(0, 1, 49), 3);
        edge.tell(x, "order 55 0 3 4;order 55 0 2 5;");
        edge.row("one between", Edge.of(x.today(0, 1, 49), x.today(0, 3, 49)), 5, 4);
        DoorsBook y = edge.told("order 50 0 2 3;order 50 0 1 2;order 50 0 3 1;");
        edge.row("of one year as told", Edge.of(y.today(0, 1, 49), y.today(0, 2, 49), y.today(0, 3, 49)), 2, 1, 1);
        DoorsBook z = edge.told("order 50 0 1 2;");
        edge.tell(z, "order 50 0 2 1;");
        edge.due("there and back", z.today(0, 1, 49), 1);
        edge.tell(z, "order 50 0 1 9;");
        edge.due("and on", z.today(0, 1, 49), 9);
        DoorsBook v = edge.told("order 60 1 1 2;order 70 3 4 5;order 50 2 2 3;order 50 3 3 4;");
        edge.row("each on its STREET", Edge.of(v.today(1, 1, 49), v.today(2, 2, 49), v.today(3, 3, 49), v.today(1, 2, 49), v.today(2, 1, 49),
            v.today(3, 4, 69), v.today(3, 3, 50)), 2, 3, 5, 2, 1, 5, 3);
        DoorsBook u = new DoorsBook();
        for (int k = 20; k >= 1; k--) edge.tell(u, "order " + k + " 0 " + k + " " + (k + 1) + ";");
        edge.row("twenty behind one another", Edge.of(u.today(0, 1, 0), u.today(0, 1, 1), u.today(0, 20, 19), u.today(0, 20, 20)), 21, 1, 21, 20);
    }

    private void yearsOfToday() {
        edge.sentence(12, "TODAY of a STREET's number of a year (0 to 9999).");
        DoorsBook x = new DoorsBook();
        for (int year : Edge.ints(0, 1, 9998, 9999)) edge.due("year " + year, x.today(0, 1, year), 1);
        for (int bad : Edge.ints(-1, 10000, Edge.MAX, Edge.MIN)) edge.due("year " + bad, x.today(0, 1, bad), Edge.BAD);
    }

    private void todayRefuses() {
        edge.sentence(12, "(0 to 9999). BAD.");
        DoorsBook x = new DoorsBook();
        for (int street = 0; street < 4; street++) edge.row("well", Edge.of(x.today(street, 1, 0), x.today(street, 99, 0)), 1, 99);
        for (int bad : Edge.ints(-1, 4, Edge.MAX, Edge.MIN)) edge.due("STREET " + bad, x.today(bad, 1, 1), Edge.BAD);
        for (int bad : Edge.ints(-1, 0, 100, Edge.MAX, Edge.MIN)) edge.due("number " + bad, x.today(0, bad, 1), Edge.BAD);
    }

    // ---- promise 13

    private void twoOrdersQuarrel() {
        edge.sentence(Edge.TERMS, "Two ORDERS of one year, STREET and old number QUARREL.");
        edge.due("another year", edge.told("order 50 0 1 2;order 51 0 1 3;").quarrels(), 0);
        edge.due("another STREET", edge.told("order 50 0 1 2;order 50 1 1 3;").quarrels(), 0);
        edge.due("another old number", edge.told("order 50 0 1 3;order 50 0 2 3;").quarrels(), 0);
        edge.due("another new number", edge.told("order 50 0 1 2;order 50 0 1 3;").quarrels(), 1);
        edge.due("the same", edge.told("order 50 0 1 2;order 50 0 1 2;").quarrels(), 1);
    }

    private void quarrelsWithAnEarlierOne() {
        edge.sentence(13, "How many ORDERS QUARREL with an earlier one (told ahead).");
        DoorsBook x = new DoorsBook();
        edge.due("none", x.quarrels(), 0);
        for (int k = 1; k <= 20; k++) {
            edge.tell(x, "order 50 0 1 " + (k + 1) + ";");
            edge.due("each but the first", x.quarrels(), k - 1);
        }
        DoorsBook y = edge.told("order 60 0 1 2;order 50 0 1 2;order 60 0 1 3;order 50 0 1 3;order 40 0 1 3;");
        edge.due("two pairs", y.quarrels(), 2);
        edge.faulty(y, "order 40 0 1 2;x", 15, 1);
        edge.due("what did not come does not QUARREL", y.quarrels(), 2);
    }

    // ---- promise 14

    private static void put(DoorsBook x, int sheet, int from, int... items) {
        for (int i = 0; i < items.length; i++) x.set(sheet, from + i, items[i]);
    }

    /** Twenty walks, each to a DOOR of its own. */
    private static DoorsBook twenty() {
        DoorsBook x = new DoorsBook();
        x.sheet(0, 2, 60);
        for (int walk = 0; walk < 20; walk++) put(x, 0, 3 * walk, walk % 4, walk + 1, 0);
        return x;
    }

    private void walksOfOneAndTwenty() {
        edge.sentence(14, "n walks (1 to 20) along ITEMS of a SHEET from i on, three each (STREET, number, year)");
        DoorsBook x = twenty();
        edge.due("one", x.walks(0, 0, 1), 0);
        edge.due("the last one", x.walks(0, 57, 1), 0);
        edge.due("twenty", x.walks(0, 0, 20), 0);
        put(x, 0, 57, 0, 1, 9999);
        edge.due("the first and the last", x.walks(0, 0, 20), 2);
        edge.due("without the last", x.walks(0, 0, 19), 0);
        edge.due("without the first", x.walks(0, 3, 19), 0);
        for (int bad : Edge.ints(0, -1, 21, Edge.MAX, Edge.MIN)) edge.due("n " + bad, x.walks(0, 0, bad), Edge.BAD);
        for (int bad : Edge.ints(1431655766, 715827883, -1431655765)) edge.due("three times n wraps around", x.walks(0, 0, bad), Edge.BAD);
    }

    private void meetingsAtOneDoor() {
        edge.sentence(14, "how many come to one DOOR with another walk of them.");
        DoorsBook x = twenty();
        edge.tell(x, "order 50 0 1 5;order 60 0 9 5;");
        edge.due("1 and 9 of year 0 come to 5, and 5 stays", x.walks(0, 0, 20), 3);
        put(x, 0, 0, 0, 1, 49);
        edge.due("1 of 49", x.walks(0, 0, 20), 3);
        put(x, 0, 0, 0, 1, 50);
        edge.due("1 of 50", x.walks(0, 0, 20), 2);
        put(x, 0, 24, 0, 9, 60);
        edge.due("9 of 60", x.walks(0, 0, 20), 0);
        put(x, 0, 3, 2, 1, 0);
        edge.due("one number of another STREET", x.walks(0, 0, 20), 0);
        put(x, 0, 57, 2, 1, 0);
        put(x, 0, 54, 0, 1, 50);
        edge.due("two pairs", x.walks(0, 0, 20), 4);
        for (int street = 0; street < 3; street++) {
            for (int number : Edge.ints(1, 2, 3, 97, 98, 99)) {
                put(x, 0, 0, street, number, 9999, street + 1, 100 - number, 9999, street + 1, number, 9999);
                edge.due("two STREETS", x.walks(0, 0, 3), 0);
            }
            put(x, 0, 0, street, 99, 9999, street + 1, 1, 9999, street + 1, 2, 9999);
            edge.due("99 and 1 of the next STREET", x.walks(0, 0, 3), 0);
        }
        DoorsBook y = new DoorsBook();
        y.sheet(0, 2, 60);
        for (int walk = 0; walk < 20; walk++) put(y, 0, 3 * walk, 3, 99, walk);
        edge.due("all twenty", y.walks(0, 0, 20), 20);
        edge.due("one alone", y.walks(0, 0, 1), 0);
    }

    private void walksRefuses() {
        edge.sentence(14, "BAD: SHEET, n; NULL; PLACE; then BAD: an ITEM as of today().");
        DoorsBook x = new DoorsBook();
        x.sheet(0, 2, 3);
        for (int bad : Edge.ints(-1, 8, Edge.MAX, Edge.MIN)) edge.due("SHEET", x.walks(bad, 0, 1), Edge.BAD);
        for (int bad : Edge.ints(0, 21)) edge.due("n, ahead of NULL", x.walks(1, 0, bad), Edge.BAD);
        for (int bad : Edge.ints(0, 21)) edge.due("n, ahead of PLACE", x.walks(0, 9, bad), Edge.BAD);
        edge.due("status", x.status(), 0);
        edge.due("NULL, ahead of PLACE", x.walks(1, -1, 20), Edge.NULL);
        edge.due("status", x.status(), 1);
        edge.due("BAD by an ITEM", x.walks(0, 0, 1), Edge.BAD);
        edge.due("status is as it was", x.status(), 1);
        edge.due("PLACE, ahead of an ITEM", x.walks(0, 1, 1), Edge.PLACE);
        edge.due("status", x.status(), 2);
        x.set(0, 1, 1);
        edge.due("well", x.walks(0, 0, 1), 0);
        edge.due("status", x.status(), 0);
    }

    private void walksRefusesPlaces() {
        edge.sentence(14, "PLACE;");
        DoorsBook x = twenty();
        for (int bad : Edge.ints(-1, 58, 59, 60, 61, Edge.MAX, Edge.MAX - 2, Edge.MIN)) edge.due("i " + bad, x.walks(0, bad, 1), Edge.PLACE);
        edge.row("beyond the end", Edge.of(x.walks(0, 1, 20), x.walks(0, 4, 19), x.walks(0, Edge.MAX, 20)), Edge.PLACE, Edge.PLACE, Edge.PLACE);
        edge.row("up to the end", Edge.of(x.walks(0, 3, 19), x.walks(0, 57, 1)), 0, 0);
        x.sheet(1, 2, 0);
        edge.due("of none", x.walks(1, 0, 1), Edge.PLACE);
        x.sheet(1, 2, 2);
        edge.due("of two", x.walks(1, 0, 1), Edge.PLACE);
        x.sheet(1, 2, 59);
        edge.due("of 59", x.walks(1, 0, 20), Edge.PLACE);
    }

    private void itemsAsOfToday() {
        edge.sentence(14, "then BAD: an ITEM as of today().");
        int[][] well = {{0, 1, 0}, {3, 99, 9999}, {0, 99, 0}, {3, 1, 9999}};
        int[][] wrong = {{-1, 1, 0}, {4, 1, 0}, {0, 0, 0}, {0, 100, 0}, {0, -1, 0}, {0, 1, -1}, {0, 1, 10000},
            {Edge.MIN, 1, 0}, {Edge.MAX, 1, 0}, {0, Edge.MIN, 0}, {0, Edge.MAX, 0}, {0, 1, Edge.MIN}, {0, 1, Edge.MAX}};
        DoorsBook x = twenty();
        for (int at : Edge.ints(0, 30, 57)) {
            for (int[] walk : well) {
                put(x, 0, at, walk);
                edge.due("well", x.walks(0, at, 1), 0);
            }
            for (int[] walk : wrong) {
                put(x, 0, at, walk);
                edge.due("an ITEM", x.walks(0, 0, 20), Edge.BAD);
            }
            put(x, 0, at, 0, 99 - at, 0);
            edge.due("well again", x.walks(0, 0, 20), 0);
        }
        DoorsBook y = new DoorsBook();
        y.sheet(0, 0, 3);
        put(y, 0, 0, 256, 257, 128);
        edge.due("a byte of 128 is below 0", y.walks(0, 0, 1), Edge.BAD);
        put(y, 0, 0, 256, 257, 127);
        edge.due("what the ITEM is, not what was put", y.walks(0, 0, 1), 0);
    }
}
