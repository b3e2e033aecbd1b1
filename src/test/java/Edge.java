import java.io.IOException;

/** What the tests of boundary cases share: each of them begins by the sentence that it is of. */
final class Edge {
    static final int NONE = DoorsBook.NONE, BAD = DoorsBook.BAD, FULL = DoorsBook.FULL;
    static final int NULL = -1000011, PLACE = -1000012, KIND = -1000013, SIZE = -1000014, STORE = -1000015;
    static final int MAX = Integer.MAX_VALUE, MIN = Integer.MIN_VALUE;
    static final int TERMS = 0;

    private final Check check = new Check();
    private final Doc doc = new Doc();
    private final boolean[] tested = new boolean[Doc.PROMISES + 1];
    private String sentence = "";

    Edge() throws IOException {
    }

    /** The tests behind this are of these words of a promise, or of what stands ahead of them all (TERMS). */
    void sentence(int promise, String words) {
        sentence = words;
        check.holds("promise " + promise + " says: " + words, doc.quotes(promise, words));
        tested[promise] = true;
    }

    void due(String what, long got, long want) {
        check.due("[" + sentence + "] " + what, got, want);
    }

    /** A row of answers, each of them due. */
    void row(String what, long[] got, long... want) {
        due(what + ", how many", got.length, want.length);
        for (int k = 0; k < want.length && k < got.length; k++) due(what + ", answer " + k, got[k], want[k]);
    }

    static long[] of(long... answers) {
        return answers;
    }

    static int[] ints(int... numbers) {
        return numbers;
    }

    DoorsBook told(String text) {
        DoorsBook x = new DoorsBook();
        tell(x, text);
        return x;
    }

    /** The text is well. */
    void tell(DoorsBook x, String text) {
        int answer = Check.tell(x, text);
        due("read() of " + text, answer, x.count(2));
    }

    /** The text on a new object has this FAULT. */
    void faulty(String text, int place, int number) {
        faulty(new DoorsBook(), text, place, number);
    }

    void faulty(DoorsBook x, String text, int place, int number) {
        due("read() of " + text, Check.tell(x, text), -1000100 - place);
        due("fault() of " + text, x.fault(), number);
    }

    void end() {
        for (int promise = 1; promise <= Doc.PROMISES; promise++) {
            check.holds("promise " + promise + " has a test of a boundary case", tested[promise]);
        }
        for (int section = 0; section <= Doc.PROMISES; section++) {
            String left = doc.unquoted(section);
            check.holds("each sentence of section " + section + " has a test, but: " + left, left.isEmpty());
        }
        check.end();
    }
}
