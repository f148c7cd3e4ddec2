import java.nio.charset.StandardCharsets;

/** What the tests share: they count wrong answers here, and tell a text to an object as a caller would. */
final class Due {
    static final String[] RULES = {"length", "hub", "thick", "play", "wind", "ramp", "gap", "dense", "hitch"};
    static final int[] RULES_LEAST = {20, 5, 1, 1, 1, 0, 0, 1, 0};
    static final int[] RULES_MOST = {9999, 99, 9, 99, 99, 99, 99, 9, 999};
    static final int[] RULES_FIRST = {1000, 20, 2, 10, 5, 3, 6, 2, 20};

    private static int wrong = 0;
    private static int asked = 0;
    private static String topic = "";

    private Due() {
    }

    static void topic(String name) {
        topic = name;
    }

    static void is(String call, long got, long want) {
        asked++;
        if (got == want) return;
        wrong++;
        if (wrong <= 50) System.out.println(topic + ": " + call + " answered " + got + ", due is " + want);
    }

    static void holds(String what, boolean so) {
        is(what, so ? 1 : 0, 1);
    }

    static int wrongSoFar() {
        return wrong;
    }

    /** Ends the machine with 1 if an answer was wrong. */
    static void close() {
        System.out.println(asked + " answers asked, " + wrong + " wrong");
        if (wrong != 0) System.exit(1);
    }

    /** THE LETTERS become this text (they were none, or are dropped). */
    static void feedText(TwoReels x, String text) {
        x.end(0);
        for (long v : eights(text)) x.feed(v);
        x.end(text.length());
    }

    static int tell(TwoReels x, String text) {
        feedText(x, text);
        return x.text();
    }

    static TwoReels told(String text) {
        TwoReels x = new TwoReels();
        int answer = tell(x, text);
        holds("text \"" + text + "\" is taken (" + answer + ")", answer >= 0);
        return x;
    }

    /** A text that is refused: the place of its FAULT, and which one it is. */
    static void refuses(TwoReels x, String text, int place, int fault) {
        is("text \"" + text + "\"", tell(x, text), -10 - place);
        is("FAULT of \"" + text + "\"", x.fault(), fault);
        is("LETTERS behind it", x.count(5), 0);
    }

    static void refuses(String text, int place, int fault) {
        refuses(new TwoReels(), text, place, fault);
    }

    static long[] eights(String text) {
        byte[] bytes = text.getBytes(StandardCharsets.ISO_8859_1);
        long[] eights = new long[(bytes.length + 7) / 8];
        for (int i = 0; i < eights.length * 8; i++) {
            int b = i < bytes.length ? bytes[i] & 255 : ' ';
            eights[i / 8] = eights[i / 8] << 8 | b;
        }
        return eights;
    }
}
