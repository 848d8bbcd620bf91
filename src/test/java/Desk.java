import java.nio.charset.StandardCharsets;

/** Where a test's answers are held against those that are due. */
final class Desk {
    private final String name;
    private int right;
    private int wrong;

    Desk(String name) {
        this.name = name;
    }

    void due(String call, long got, long want) {
        if (got == want) {
            right++;
        } else {
            wrong++;
            System.out.println(name + ": " + call + " answered " + got + ", due is " + want);
        }
    }

    void due(String call, boolean got, boolean want) {
        due(call, got ? 1 : 0, want ? 1 : 0);
    }

    /** Numbers lie there in this order, and none behind them. */
    void lie(String call, GraftedLaws x, int... wants) {
        due(call + ", about(14)", x.about(14), wants.length);
        for (int i = 0; i < wants.length; i++) {
            due(call + ", lies(" + i + ")", x.lies(i), wants[i]);
        }
        due(call + ", lies behind the last", x.lies(wants.length), GraftedLaws.NONE);
        due(call + ", lies ahead of the first", x.lies(-1), GraftedLaws.NONE);
    }

    /** The fault stands where the text has a bar, which is left out of it. */
    void fault(int what, String text) {
        int place = text.indexOf('|');
        GraftedLaws x = new GraftedLaws();
        feed(x, text.substring(0, place) + text.substring(place + 1));
        due("orchard of " + text, x.orchard(), GraftedLaws.NONE);
        due("fault(0) of " + text, x.fault(0), what);
        due("fault(1) of " + text, x.fault(1), place);
        due("the tape behind " + text, x.about(12), 0);
    }

    /** A text without a fault, with so many cases. */
    GraftedLaws good(int cases, String text) {
        GraftedLaws x = new GraftedLaws();
        feed(x, text);
        due("orchard of " + text, x.orchard(), cases);
        due("fault(0) of " + text, x.fault(0), 0);
        due("fault(1) of " + text, x.fault(1), GraftedLaws.NONE);
        due("the tape behind " + text, x.about(12), 0);
        return x;
    }

    int wrongAnswers() {
        return wrong;
    }

    void close() {
        System.out.println(name + ": " + right + " answers as due, " + wrong + " not");
        if (wrong != 0) {
            System.exit(1);
        }
    }

    /** Puts a text on the tape, with nothing behind it. */
    static void feed(GraftedLaws laws, String text) {
        byte[] bytes = text.getBytes(StandardCharsets.ISO_8859_1);
        int were = laws.about(12);
        for (int i = 0; i < bytes.length; i += 20) {
            laws.feed(word(bytes, i), word(bytes, i + 4), word(bytes, i + 8), word(bytes, i + 12), word(bytes, i + 16));
        }
        laws.end(were + bytes.length);
    }

    static int word(byte[] bytes, int from) {
        int word = 0;
        for (int i = from; i < from + 4; i++) {
            word = word << 8 | (i < bytes.length ? bytes[i] & 255 : 0);
        }
        return word;
    }

    static GraftedLaws grown(String text) {
        GraftedLaws laws = new GraftedLaws();
        feed(laws, text);
        if (laws.orchard() == GraftedLaws.NONE) {
            throw new IllegalStateException("fault " + laws.fault(0) + " at " + laws.fault(1) + " of " + text);
        }
        return laws;
    }
}
