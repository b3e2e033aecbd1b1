import java.util.ArrayList;
import java.util.List;

/** What the terms say of refusals: which comes first, and that they change nothing but status(). */
final class RefusalEdges {
    private interface Call {
        long on(DoorsBook x);
    }

    private record Refused(String name, Call call, int answer) {
    }

    private static final String TEXT = "book 50 0 2;book 60 0 1;line 0 listed 0 1 lee age 30;line 1 counted 0 2 lea age 41;line 1 trade 0 3 lee;"
        + "line 0 stale 0 1 cole;line 1 rated 0 2 kohl;order 55 0 1 2;order 55 0 1 3;house 0 2 58 59;";

    private final Edge edge;

    RefusalEdges(Edge edge) {
        this.edge = edge;
    }

    void run() {
        numbersFromZero();
        findingsByNumbers();
        upToTheLastCall();
        theFirstThatFits();
        changesNothing();
        aFullTapeChangesNothing();
    }

    private void numbersFromZero() {
        edge.sentence(Edge.TERMS, "Numbers go from 0 on.");
        DoorsBook x = full();
        edge.row("the first ones", Edge.of(x.set(0, 0, 1), x.line(0, 0), x.leaf(0, 1), x.today(0, 9, 0), x.trace(0), x.person(4) & 1), 1, 0, 1, 9, 23, 0);
        edge.row("none below", Edge.of(x.set(-1, 0, 1), x.set(0, -1, 1), x.line(-1, 0), x.leaf(-1, 0), x.today(-1, 9, 0), x.trace(-1)),
            Edge.BAD, Edge.PLACE, Edge.BAD, Edge.BAD, Edge.BAD, Edge.NONE);
    }

    private void findingsByNumbers() {
        edge.sentence(Edge.TERMS, "-1000010 less 1 NULL (a SHEET that is missing), 2 PLACE (no such place of a SHEET), 3 KIND (a LINE that is not that), "
            + "4 SIZE (fewer than none), 5 STORE (SHEETS of two LANES).");
        DoorsBook x = full();
        edge.row("NULL", Edge.of(x.drop(6), x.status()), -1000011, 1);
        edge.row("PLACE", Edge.of(x.set(0, 3, 1), x.status()), -1000012, 2);
        edge.row("KIND", Edge.of(x.as(0, 2), x.status()), -1000013, 3);
        edge.row("SIZE", Edge.of(x.sheet(0, 0, -1), x.status()), -1000014, 4);
        edge.row("STORE", Edge.of(x.copy(0, 0, 1, 0, 1), x.status()), -1000015, 5);
    }

    private void upToTheLastCall() {
        edge.sentence(Edge.TERMS, "An object is used for at most 512 calls after it has been made; what later calls answer is free.");
        DoorsBook x = new DoorsBook();
        int calls = 0;
        for (; calls < 480; calls++) edge.due("feed and read", calls % 2 == 0 ? x.feed(32, 1) : x.read(), calls % 2 == 0 ? 1 : 0);
        String text = "book 50 0 1;line 0 trade 0 1 lee;line 0 trade 0 2 lea;";
        for (int at = 0; at < text.length(); at += 2, calls++) x.feed(Check.asLong(text.substring(at, at + 2)), 2);
        edge.due("call 508", x.read(), 2);
        edge.row("the last four", Edge.of(x.person(1), x.joined(1), x.ask(1, 1), x.trace(2)), 3, 1, 53, 10);
        edge.due("calls", calls + 5, 512);
    }

    private void theFirstThatFits() {
        edge.sentence(Edge.TERMS, "Refusals are answers, the first of these that fits: BAD (a number is not as told; there is no such thing), "
            + "STATE (as told), FULL (as told), then FINDINGS, of several the first in time");
        DoorsBook x = new DoorsBook();
        x.sheet(0, 0, 3);
        x.sheet(1, 1, 3);
        edge.row("BAD, then SIZE", Edge.of(x.sheet(8, 0, -1), x.sheet(0, 3, -1), x.sheet(0, 0, -1)), Edge.BAD, Edge.BAD, Edge.SIZE);
        edge.row("BAD, then NULL, then PLACE", Edge.of(x.set(8, -1, 0), x.set(2, -1, 0), x.set(0, -1, 0)), Edge.BAD, Edge.NULL, Edge.PLACE);
        edge.row("BAD, then NULL, then STORE, then PLACE",
            Edge.of(x.copy(8, -1, 2, -1, -1), x.copy(2, -1, 0, -1, -1), x.copy(0, -1, 2, -1, -1), x.copy(0, -1, 1, -1, -1), x.copy(0, -1, 0, -1, -1)),
            Edge.BAD, Edge.NULL, Edge.NULL, Edge.STORE, Edge.PLACE);
        edge.row("BAD, then NULL, then PLACE, then BAD", Edge.of(x.walks(2, -1, 0), x.walks(2, -1, 1), x.walks(0, -1, 1), x.walks(0, 0, 1)),
            Edge.BAD, Edge.NULL, Edge.PLACE, Edge.BAD);
        Check.tell(x, TEXT);
        edge.row("BAD, then KIND", Edge.of(x.as(5, 5), x.as(0, 6), x.as(0, 5)), Edge.BAD, Edge.BAD, Edge.KIND);
        Check.feed(x, " ".repeat(600));
        edge.row("BAD, then FULL", Edge.of(x.feed(32, 0), x.feed(32, 9), x.feed(32, 1)), Edge.BAD, Edge.BAD, Edge.FULL);
    }

    /** Of all that can be seen something is there: SHEETS of each LANE, a text, a FAULT, a TRACE, a READ BOOK, a FINDING. */
    private static DoorsBook full() {
        DoorsBook x = new DoorsBook();
        Check.tell(x, TEXT);
        Check.tell(x, "book 0");
        for (int lane = 0; lane < 3; lane++) {
            x.sheet(lane, lane, 3);
            for (int i = 0; i < 3; i++) x.set(lane, i, 10 * lane + i + 1);
        }
        x.leaf(0, 1);
        x.ask(2, 1);
        Check.feed(x, "book 70 0 3");
        x.as(0, 4);
        return x;
    }

    /** All that can be seen but status(). */
    private static List<Long> everything(DoorsBook x) {
        List<Long> all = new ArrayList<>();
        for (int what = 0; what < 8; what++) all.add((long) x.count(what));
        for (int i = 0; i < 4; i++) all.add((long) x.trace(i));
        for (int line = 0; line < 5; line++) {
            for (int what = 0; what < 9; what++) all.add((long) x.line(line, what));
            all.add((long) x.person(line));
            all.add(x.sure(0, line));
            all.add((long) x.stay(line, 2));
        }
        for (int what = 0; what < 3; what++) all.add(x.joined(what));
        for (int number = 1; number < 5; number++) all.add((long) x.today(0, number, 50));
        all.add((long) x.quarrels());
        all.add((long) x.next());
        all.add((long) x.fault());
        for (int sheet = 0; sheet < 3; sheet++) {
            for (int i = 0; i < 3; i++) all.add(SheetEdges.is(x, sheet, sheet, i, 10 * sheet + i + 1) ? 1L : 0L);
        }
        for (int sheet = 0; sheet < 7; sheet++) all.add((long) x.drop(sheet));
        x.feed(';', 1);
        all.add((long) x.read());
        for (int book = 0; book < 3; book++) all.add((long) x.leaf(book, 0));
        return all;
    }

    private static void add(List<Refused> to, String name, Call call, int answer) {
        to.add(new Refused(name, call, answer));
    }

    private static List<Refused> refusedSheetCalls() {
        List<Refused> all = new ArrayList<>();
        add(all, "sheet(8, 0, 1)", x -> x.sheet(8, 0, 1), Edge.BAD);
        add(all, "sheet(0, 3, 1)", x -> x.sheet(0, 3, 1), Edge.BAD);
        add(all, "sheet(0, 1, 61)", x -> x.sheet(0, 1, 61), Edge.BAD);
        add(all, "sheet(0, 1, -1)", x -> x.sheet(0, 1, -1), Edge.SIZE);
        add(all, "sheet(6, 1, -1)", x -> x.sheet(6, 1, -1), Edge.SIZE);
        add(all, "set(8, 0, 9)", x -> x.set(8, 0, 9), Edge.BAD);
        add(all, "set(-1, 0, 9)", x -> x.set(-1, 0, 9), Edge.BAD);
        add(all, "set(5, 0, 9)", x -> x.set(5, 0, 9), Edge.NULL);
        add(all, "set(0, 3, 9)", x -> x.set(0, 3, 9), Edge.PLACE);
        add(all, "set(1, -1, 9)", x -> x.set(1, -1, 9), Edge.PLACE);
        add(all, "copy(8, 0, 0, 0, 1)", x -> x.copy(8, 0, 0, 0, 1), Edge.BAD);
        add(all, "copy(0, 0, 8, 0, 1)", x -> x.copy(0, 0, 8, 0, 1), Edge.BAD);
        add(all, "copy(5, 0, 0, 0, 1)", x -> x.copy(5, 0, 0, 0, 1), Edge.NULL);
        add(all, "copy(0, 0, 5, 0, 1)", x -> x.copy(0, 0, 5, 0, 1), Edge.NULL);
        add(all, "copy(0, 0, 1, 0, 3)", x -> x.copy(0, 0, 1, 0, 3), Edge.STORE);
        add(all, "copy(0, 0, 0, 1, 3)", x -> x.copy(0, 0, 0, 1, 3), Edge.PLACE);
        add(all, "copy(0, 1, 0, 0, 3)", x -> x.copy(0, 1, 0, 0, 3), Edge.PLACE);
        add(all, "copy(0, 1, 0, 0, -1)", x -> x.copy(0, 1, 0, 0, -1), Edge.PLACE);
        add(all, "drop(8)", x -> x.drop(8), Edge.BAD);
        add(all, "drop(5)", x -> x.drop(5), Edge.NULL);
        add(all, "walks(8, 0, 1)", x -> x.walks(8, 0, 1), Edge.BAD);
        add(all, "walks(0, 0, 21)", x -> x.walks(0, 0, 21), Edge.BAD);
        add(all, "walks(5, 0, 1)", x -> x.walks(5, 0, 1), Edge.NULL);
        add(all, "walks(0, 1, 1)", x -> x.walks(0, 1, 1), Edge.PLACE);
        add(all, "walks(2, 0, 1)", x -> x.walks(2, 0, 1), Edge.BAD);
        add(all, "as(5, 0)", x -> x.as(5, 0), Edge.BAD);
        add(all, "as(0, 6)", x -> x.as(0, 6), Edge.BAD);
        add(all, "as(0, 5)", x -> x.as(0, 5), Edge.KIND);
        return all;
    }

    private static List<Refused> refusedOtherCalls() {
        List<Refused> all = new ArrayList<>();
        add(all, "feed(120, 0)", x -> x.feed(120, 0), Edge.BAD);
        add(all, "feed(120, 9)", x -> x.feed(120, 9), Edge.BAD);
        add(all, "line(5, 0)", x -> x.line(5, 0), Edge.BAD);
        add(all, "line(0, 9)", x -> x.line(0, 9), Edge.BAD);
        add(all, "ear(5)", x -> x.ear(5), Edge.BAD);
        add(all, "alike(0, 5, 0)", x -> x.alike(0, 5, 0), Edge.BAD);
        add(all, "alike(0, 1, 3)", x -> x.alike(0, 1, 3), Edge.BAD);
        add(all, "today(4, 1, 1)", x -> x.today(4, 1, 1), Edge.BAD);
        add(all, "joined(3)", x -> x.joined(3), Edge.BAD);
        add(all, "person(5)", x -> x.person(5), Edge.BAD);
        add(all, "sure(5, 5)", x -> x.sure(5, 5), Edge.BAD);
        add(all, "stay(0, 4)", x -> x.stay(0, 4), Edge.BAD);
        add(all, "lost(4, 1, 1, 0)", x -> x.lost(4, 1, 1, 0), Edge.BAD);
        add(all, "found(0, 1, 1, 0, 2)", x -> x.found(0, 1, 1, 0, 2), Edge.BAD);
        add(all, "missing(0, 0, 0)", x -> x.missing(0, 0, 0), Edge.BAD);
        add(all, "shown(5, 1)", x -> x.shown(5, 1), Edge.BAD);
        add(all, "leaf(0, 2)", x -> x.leaf(0, 2), Edge.BAD);
        add(all, "leaf(0, -1)", x -> x.leaf(0, -1), Edge.BAD);
        add(all, "leaf(2, 1)", x -> x.leaf(2, 1), Edge.BAD);
        add(all, "kind(5)", x -> x.kind(5), Edge.BAD);
        add(all, "ask(0, 2)", x -> x.ask(0, 2), Edge.BAD);
        add(all, "ask(5, 0)", x -> x.ask(5, 0), Edge.BAD);
        add(all, "count(8)", x -> x.count(8), Edge.BAD);
        return all;
    }

    private void changesNothing() {
        edge.sentence(Edge.TERMS, "What is refused, or found, changes nothing but status().");
        List<Long> before = everything(full());
        List<Refused> all = refusedSheetCalls();
        all.addAll(refusedOtherCalls());
        for (Refused r : all) {
            DoorsBook x = full();
            edge.due(r.name, r.call.on(x), r.answer);
            edge.due("status() after " + r.name, x.status(), r.answer == Edge.BAD ? 3 : -1000010 - r.answer);
            List<Long> after = everything(x);
            for (int k = 0; k < before.size(); k++) edge.due("answer " + k + " after " + r.name, after.get(k), before.get(k));
        }
    }

    private void aFullTapeChangesNothing() {
        DoorsBook x = full();
        Check.feed(x, " ".repeat(588));
        edge.due("FULL", x.feed(0x783b, 2), Edge.FULL);
        edge.due("status() after FULL", x.status(), 3);
        List<Long> after = everything(x);
        List<Long> before = everything(full());
        for (int k = 0; k < before.size(); k++) {
            boolean isOfTheTape = k == 7;
            edge.due("answer " + k + " after FULL", after.get(k), isOfTheTape ? 599 : before.get(k));
        }
    }
}
