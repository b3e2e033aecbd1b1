/** Boundary cases of SHEETS: promises 1 to 5. */
final class SheetEdges {
    private static final int[] NO_SHEETS = {-1, 8, Edge.MAX, Edge.MIN};

    private final Edge edge;

    SheetEdges(Edge edge) {
        this.edge = edge;
    }

    void run() {
        nothingIsTold();
        sheetsAreMissingAtFirst();
        itemsAreZeroAtFirst();
        anyLaneAndSize();
        inPlaceOfWhatIsThere();
        sheetRefuses();
        lowestBits();
        setPutsOneItemAlone();
        setRefuses();
        copiesAsTheyWereAhead();
        copiesNoneAndAll();
        copyRefusesInOrder();
        copyRefusesPlaces();
        dropTellsHowMany();
        dropRefuses();
    }

    /** Whether ITEM i of a SHEET is a number (1 to 99), seen by two walks that meet; SHEET 7 is laid over. */
    static boolean is(DoorsBook x, int sheet, int lane, int i, int number) {
        x.sheet(7, lane, 6);
        x.copy(sheet, i, 7, 1, 1);
        x.set(7, 4, number);
        return x.walks(7, 0, 2) == 2;
    }

    /** Whether ITEM i is 0: a STREET may be 0, and a number may not. */
    private static boolean isZero(DoorsBook x, int sheet, int lane, int i) {
        x.sheet(7, lane, 6);
        x.copy(sheet, i, 7, 0, 1);
        x.set(7, 1, 1);
        x.set(7, 4, 1);
        return x.walks(7, 0, 2) == 2;
    }

    // ---- promise 1

    private void nothingIsTold() {
        edge.sentence(1, "Nothing is told.");
        DoorsBook x = new DoorsBook();
        for (int what = 0; what < 8; what++) edge.due("count(" + what + ")", x.count(what), 0);
        edge.due("fault()", x.fault(), 0);
        edge.due("status()", x.status(), 0);
        edge.due("quarrels()", x.quarrels(), 0);
        edge.due("next()", x.next(), Edge.NONE);
        edge.due("trace(0)", x.trace(0), Edge.NONE);
        edge.row("joined", Edge.of(x.joined(0), x.joined(1), x.joined(2)), 0, 1, 0);
        edge.row("no LINE", Edge.of(x.line(0, 0), x.ear(0), x.alike(0, 0, 0), x.person(0), x.sure(0, 0), x.stay(0, 0),
            x.shown(0, 1), x.kind(0), x.as(0, 0), x.ask(0, 0)),
            Edge.BAD, Edge.BAD, Edge.BAD, Edge.BAD, Edge.BAD, Edge.BAD, Edge.BAD, Edge.BAD, Edge.BAD, Edge.BAD);
        edge.row("no BOOK", Edge.of(x.leaf(0, 0), x.missing(0, 1, 0)), Edge.BAD, Edge.BAD);
        edge.row("no ORDER", Edge.of(x.today(0, 1, 0), x.today(3, 99, 9999)), 1, 99);
        edge.row("no LOST ORDER", Edge.of(x.lost(0, 0, 9999, 0), x.lost(0, 0, 9999, 1), x.lost(0, 0, 9999, 2),
            x.found(0, 0, 9999, 0, 0)), 0, 0, 0, Edge.NONE);
        edge.due("an empty tape", x.read(), 0);
    }

    private void sheetsAreMissingAtFirst() {
        edge.sentence(Edge.TERMS, "SHEETS 0 .. 7 are missing (at first), or have a LANE");
        DoorsBook x = new DoorsBook();
        for (int sheet = 0; sheet < 8; sheet++) {
            edge.due("set", x.set(sheet, 0, 0), Edge.NULL);
            edge.due("drop", x.drop(sheet), Edge.NULL);
            edge.due("walks", x.walks(sheet, 0, 1), Edge.NULL);
            edge.due("copy", x.copy(sheet, 0, sheet, 0, 0), Edge.NULL);
        }
        for (int bad : NO_SHEETS) edge.due("no such SHEET", x.drop(bad), Edge.BAD);
        edge.due("none", x.count(0), 0);
    }

    private void itemsAreZeroAtFirst() {
        edge.sentence(Edge.TERMS, "and 0 to 60 ITEMS, 0 at first.");
        DoorsBook x = new DoorsBook();
        for (int lane = 0; lane < 3; lane++) {
            edge.due("sixty", x.sheet(lane, lane, 60), 60);
            for (int i = 0; i < 60; i += 59) edge.due("0", isZero(x, lane, lane, i) ? 1 : 0, 1);
        }
        edge.due("none", x.sheet(0, 0, 0), 0);
        edge.due("no ITEM", x.set(0, 0, 1), Edge.PLACE);
        edge.due("61", x.sheet(0, 0, 61), Edge.BAD);
    }

    // ---- promise 2

    private void anyLaneAndSize() {
        edge.sentence(2, "A SHEET of a LANE with n ITEMS, in place of what is there: n.");
        DoorsBook x = new DoorsBook();
        for (int lane = 0; lane < 3; lane++) {
            for (int n : Edge.ints(0, 1, 59, 60)) {
                edge.due("n", x.sheet(7 * (lane & 1), lane, n), n);
                edge.due("behind the last", x.set(7 * (lane & 1), n, 1), Edge.PLACE);
                if (n > 0) edge.due("the last", x.set(7 * (lane & 1), n - 1, 1), 1);
            }
        }
        edge.due("two of them", x.count(0), 2);
    }

    private void inPlaceOfWhatIsThere() {
        edge.sentence(2, "in place of what is there");
        DoorsBook x = new DoorsBook();
        x.sheet(0, 2, 3);
        for (int i = 0; i < 3; i++) x.set(0, i, 9);
        edge.due("anew, less", x.sheet(0, 2, 2), 2);
        edge.due("what was there is gone", x.set(0, 2, 9), Edge.PLACE);
        edge.due("anew, more", x.sheet(0, 2, 3), 3);
        for (int i = 0; i < 3; i++) edge.due("ITEM " + i + " is 0", isZero(x, 0, 2, i) ? 1 : 0, 1);
        edge.due("another LANE", x.sheet(0, 0, 3), 3);
        edge.due("its bits", x.set(0, 0, 256), 0);
        edge.due("after a drop", x.drop(0), 3);
        edge.due("is there again", x.sheet(0, 1, 3), 3);
        for (int i = 0; i < 3; i++) edge.due("ITEM " + i + " is 0", isZero(x, 0, 1, i) ? 1 : 0, 1);
        edge.due("the others are not touched", x.count(0), 2);
    }

    private void sheetRefuses() {
        edge.sentence(2, "BAD: SHEET, LANE, n above 60; SIZE.");
        DoorsBook x = new DoorsBook();
        for (int bad : NO_SHEETS) {
            edge.due("SHEET", x.sheet(bad, 0, 1), Edge.BAD);
            edge.due("SHEET, ahead of SIZE", x.sheet(bad, 0, -1), Edge.BAD);
        }
        for (int bad : Edge.ints(-1, 3, Edge.MAX, Edge.MIN)) {
            edge.due("LANE", x.sheet(0, bad, 1), Edge.BAD);
            edge.due("LANE, ahead of SIZE", x.sheet(0, bad, -1), Edge.BAD);
        }
        for (int bad : Edge.ints(61, Edge.MAX)) edge.due("n above 60", x.sheet(0, 0, bad), Edge.BAD);
        edge.due("status: no FINDING yet", x.status(), 0);
        for (int few : Edge.ints(-1, -61, Edge.MIN)) {
            edge.due("SIZE", x.sheet(0, 2, few), Edge.SIZE);
            edge.due("status", x.status(), 4);
        }
        edge.due("none came", x.count(0), 0);
    }

    // ---- promise 3

    private void lowestBits() {
        edge.sentence(3, "ITEM i becomes v, its lowest bits, as many as the LANE has: what it is then.");
        DoorsBook x = new DoorsBook();
        for (int lane = 0; lane < 3; lane++) x.sheet(lane, lane, 1);
        int[] values = {0, 1, -1, 127, 128, -128, -129, 255, 256, 257, 32767, 32768, -32768, -32769, 65535, 65536,
            65537, Edge.MAX, Edge.MIN, Edge.MIN + 1};
        int[] bytes = {0, 1, -1, 127, -128, -128, 127, -1, 0, 1, -1, 0, 0, -1, -1, 0, 1, -1, 0, 1};
        int[] shorts = {0, 1, -1, 127, 128, -128, -129, 255, 256, 257, 32767, -32768, -32768, 32767, -1, 0, 1, -1, 0, 1};
        for (int k = 0; k < values.length; k++) {
            edge.row("of " + values[k], Edge.of(x.set(0, 0, values[k]), x.set(1, 0, values[k]), x.set(2, 0, values[k])),
                bytes[k], shorts[k], values[k]);
        }
        edge.sentence(Edge.TERMS, "have a LANE (0 bytes, 1 shorts, 2 ints)");
        edge.due("what is held is cut, too", x.set(0, 0, 256 + 44), 44);
        edge.due("what is held is cut, too", SheetEdges.is(x, 0, 0, 0, 44) ? 1 : 0, 1);
    }

    private void setPutsOneItemAlone() {
        edge.sentence(3, "ITEM i becomes v");
        DoorsBook x = new DoorsBook();
        for (int sheet = 0; sheet < 3; sheet++) {
            x.sheet(sheet, 2, 60);
            x.set(sheet, 0, 11 + sheet);
            x.set(sheet, 59, 21 + sheet);
        }
        x.set(1, 0, 55);
        x.set(1, 59, 66);
        edge.due("the first", is(x, 1, 2, 0, 55) ? 1 : 0, 1);
        edge.due("the last", is(x, 1, 2, 59, 66) ? 1 : 0, 1);
        edge.due("one beside", isZero(x, 1, 2, 1) && isZero(x, 1, 2, 58) ? 1 : 0, 1);
        edge.due("the SHEET ahead", is(x, 0, 2, 0, 11) && is(x, 0, 2, 59, 21) ? 1 : 0, 1);
        edge.due("the SHEET behind", is(x, 2, 2, 0, 13) && is(x, 2, 2, 59, 23) ? 1 : 0, 1);
    }

    private void setRefuses() {
        edge.sentence(3, "BAD: SHEET; NULL; PLACE.");
        DoorsBook x = new DoorsBook();
        x.sheet(0, 0, 60);
        x.sheet(1, 0, 0);
        for (int bad : NO_SHEETS) edge.due("SHEET", x.set(bad, 99, 0), Edge.BAD);
        for (int any : Edge.ints(-1, 0, 99)) edge.due("NULL, ahead of PLACE", x.set(2, any, 0), Edge.NULL);
        edge.due("status", x.status(), 1);
        for (int bad : Edge.ints(-1, 60, 61, Edge.MAX, Edge.MIN)) edge.due("PLACE", x.set(0, bad, 0), Edge.PLACE);
        for (int bad : Edge.ints(-1, 0, 1)) edge.due("PLACE of none", x.set(1, bad, 0), Edge.PLACE);
        edge.due("status", x.status(), 2);
        edge.row("the ends", Edge.of(x.set(0, 0, 5), x.set(0, 59, 6)), 5, 6);
    }

    // ---- promise 4

    private DoorsBook counting(int lane, int n) {
        DoorsBook x = new DoorsBook();
        x.sheet(0, lane, n);
        for (int i = 0; i < n; i++) x.set(0, i, i + 1);
        return x;
    }

    private void items(DoorsBook x, int sheet, int lane, int... numbers) {
        for (int i = 0; i < numbers.length; i++) {
            edge.due("ITEM " + i + " of SHEET " + sheet + " is " + numbers[i], is(x, sheet, lane, i, numbers[i]) ? 1 : 0, 1);
        }
    }

    private void copiesAsTheyWereAhead() {
        edge.sentence(4, "n ITEMS of a from i on come to b from j on, as they were ahead: n.");
        for (int lane = 0; lane < 3; lane++) {
            DoorsBook forth = counting(lane, 5);
            edge.due("forth over itself", forth.copy(0, 0, 0, 2, 3), 3);
            items(forth, 0, lane, 1, 2, 1, 2, 3);
            DoorsBook back = counting(lane, 5);
            edge.due("back over itself", back.copy(0, 2, 0, 0, 3), 3);
            items(back, 0, lane, 3, 4, 5, 4, 5);
            DoorsBook same = counting(lane, 5);
            edge.due("onto itself", same.copy(0, 0, 0, 0, 5), 5);
            items(same, 0, lane, 1, 2, 3, 4, 5);
            same.sheet(1, lane, 3);
            for (int i = 0; i < 3; i++) same.set(1, i, 70 + i);
            edge.due("to another, up to both ends", same.copy(0, 3, 1, 1, 2), 2);
            items(same, 1, lane, 70, 4, 5);
            items(same, 0, lane, 1, 2, 3, 4, 5);
        }
    }

    private void copiesNoneAndAll() {
        edge.sentence(4, "n ITEMS of a from i on come to b from j on");
        DoorsBook x = counting(2, 60);
        x.sheet(1, 2, 60);
        x.sheet(2, 2, 0);
        edge.due("all sixty", x.copy(0, 0, 1, 0, 60), 60);
        edge.due("the first", is(x, 1, 2, 0, 1) ? 1 : 0, 1);
        edge.due("the last", is(x, 1, 2, 59, 60) ? 1 : 0, 1);
        edge.due("none", x.copy(0, 0, 1, 0, 0), 0);
        edge.due("none from the end, to the end", x.copy(0, 60, 1, 60, 0), 0);
        edge.due("none of none", x.copy(2, 0, 2, 0, 0), 0);
        edge.due("status", x.status(), 0);
        edge.due("nothing came", is(x, 1, 2, 0, 1) && is(x, 1, 2, 59, 60) ? 1 : 0, 1);
    }

    private void copyRefusesInOrder() {
        edge.sentence(4, "BAD: SHEETS; NULL; STORE; PLACE");
        DoorsBook x = counting(2, 3);
        x.sheet(1, 1, 3);
        x.sheet(2, 0, 3);
        for (int bad : NO_SHEETS) {
            edge.due("a", x.copy(bad, 0, 0, 0, 1), Edge.BAD);
            edge.due("b", x.copy(0, 0, bad, 0, 1), Edge.BAD);
            edge.due("a, ahead of NULL", x.copy(bad, -1, 5, -1, -1), Edge.BAD);
            edge.due("b, ahead of NULL", x.copy(5, -1, bad, -1, -1), Edge.BAD);
        }
        edge.due("NULL of a, ahead of PLACE", x.copy(5, -1, 0, 0, 1), Edge.NULL);
        edge.due("NULL of b, ahead of PLACE", x.copy(0, -1, 5, 0, 1), Edge.NULL);
        edge.due("NULL of both", x.copy(5, 0, 6, 0, 0), Edge.NULL);
        edge.due("status", x.status(), 1);
        for (int a = 0; a < 3; a++) {
            for (int b = 0; b < 3; b++) {
                edge.due("STORE or not, with none", x.copy(a, 0, b, 0, 0), a == b ? 0 : Edge.STORE);
                edge.due("STORE ahead of PLACE", x.copy(a, -1, b, 9, 4), a == b ? Edge.PLACE : Edge.STORE);
                edge.due("status", x.status(), a == b ? 2 : 5);
            }
        }
        items(x, 0, 2, 1, 2, 3);
    }

    private void copyRefusesPlaces() {
        edge.sentence(4, "PLACE (i, j, n below 0, or beyond an end).");
        DoorsBook x = counting(2, 5);
        x.sheet(1, 2, 3);
        int[][] wrong = {
            {-1, 0, 1}, {0, -1, 1}, {0, 0, -1}, {-1, 0, 0}, {0, -1, 0}, {6, 0, 0}, {0, 4, 0}, {5, 0, 1}, {0, 3, 1},
            {3, 0, 3}, {0, 1, 3}, {0, 0, 4}, {0, 0, Edge.MAX}, {1, 0, Edge.MAX}, {0, 1, Edge.MAX}, {Edge.MAX, 0, 1},
            {0, Edge.MAX, 1}, {Edge.MAX, Edge.MAX, Edge.MAX}, {Edge.MIN, 0, 1}, {0, Edge.MIN, 1}, {0, 0, Edge.MIN},
            {1, 1, Edge.MIN}, {Edge.MIN, Edge.MIN, Edge.MIN}, {5, 3, -1}, {Edge.MAX, 0, 0}, {0, Edge.MAX, 0}
        };
        for (int[] w : wrong) {
            edge.due("copy " + w[0] + ", " + w[1] + ", " + w[2], x.copy(0, w[0], 1, w[1], w[2]), Edge.PLACE);
        }
        edge.due("status", x.status(), 2);
        edge.due("the most that fits", x.copy(0, 2, 1, 0, 3), 3);
        edge.due("status", x.status(), 0);
        items(x, 1, 2, 3, 4, 5);
    }

    // ---- promise 5

    private void dropTellsHowMany() {
        edge.sentence(5, "A SHEET is missing from now on: how many ITEMS it had.");
        DoorsBook x = new DoorsBook();
        for (int sheet = 0; sheet < 8; sheet++) x.sheet(sheet, sheet % 3, sheet == 7 ? 60 : sheet);
        for (int sheet = 0; sheet < 8; sheet++) {
            edge.due("it had", x.drop(sheet), sheet == 7 ? 60 : sheet);
            edge.due("how many are left", x.count(0), 7 - sheet);
            edge.due("missing", x.set(sheet, 0, 0), Edge.NULL);
        }
    }

    private void dropRefuses() {
        edge.sentence(5, "BAD; NULL.");
        DoorsBook x = new DoorsBook();
        x.sheet(0, 0, 1);
        for (int bad : NO_SHEETS) edge.due("BAD", x.drop(bad), Edge.BAD);
        edge.due("status", x.status(), 0);
        edge.due("NULL", x.drop(7), Edge.NULL);
        edge.due("status", x.status(), 1);
        edge.due("once", x.drop(0), 1);
        edge.due("twice", x.drop(0), Edge.NULL);
    }
}
