/** Counts and prints answers that are not the ones that are due. */
final class Check {
    private int wrong = 0;
    private int asked = 0;

    void due(String what, long got, long want) {
        asked++;
        if (got == want) return;
        wrong++;
        System.out.println(what + " answered " + got + ", due is " + want);
    }

    void holds(String what, boolean is) {
        due(what, is ? 1 : 0, 1);
    }

    int wrongSoFar() {
        return wrong;
    }

    void end() {
        System.out.println(asked + " answers, " + wrong + " not as due");
        if (wrong != 0 || asked == 0) System.exit(1);
    }

    /** Brings a text to the tape, eight bytes a call. */
    static void feed(DoorsBook x, String text) {
        for (int at = 0; at < text.length(); at += 8) {
            String part = text.substring(at, Math.min(at + 8, text.length()));
            x.feed(asLong(part), part.length());
        }
    }

    static long asLong(String part) {
        long w = 0;
        for (int k = 0; k < part.length(); k++) w = w << 8 | part.charAt(k) & 255;
        return w;
    }

    static int tell(DoorsBook x, String text) {
        feed(x, text);
        return x.read();
    }
}
