import java.util.function.IntUnaryOperator;

/** What the tests of the project share: a bottle that is told by a text, and the counting of wrong answers. */
final class Check {
    static final int BAD = -1, STATE = -2, FULL = -3, NONE = -4, NO_WEIGHT = -1000000;
    static final int MAX = Integer.MAX_VALUE, MIN = Integer.MIN_VALUE;

    private static int wrong = 0, asked = 0;
    private static String sentence = "";

    private Check() {
    }

    static void due(int promise, String call, long got, long want) {
        look("promise " + promise, call, got, want);
    }

    private static void look(String where, String call, long got, long want) {
        asked++;
        if (got == want) return;
        wrong++;
        System.out.println(where + ": " + call + " answered " + got + ", due is " + want);
    }

    // ---- a test that holds a sentence

    static void holds(String toldSentence) {
        sentence = toldSentence;
    }

    static int asked() {
        return asked;
    }

    static void due(String call, long got, long want) {
        look(sentence, call, got, want);
    }

    /** Both ends of a range are taken, and what is next to them, or far from them, is refused. */
    static void bounds(String call, IntUnaryOperator ask, int least, int most, int refused) {
        for (int v : new int[] {least - 1, most + 1, MIN, MAX}) due(call + " with " + v, ask.applyAsInt(v), refused);
        for (int v : new int[] {least, most}) {
            due(call + " with " + v + " is refused", ask.applyAsInt(v) == refused ? 1 : 0, 0);
        }
    }

    // ---- texts

    /** Puts a text on an empty tape, byte for byte. */
    static void feed(DiverBottle x, String text) {
        x.end(0);
        for (int i = 0; i < text.length(); i += 8) {
            long v = 0;
            for (int j = i; j < i + 8; j++) v = v << 8 | (j < text.length() ? text.charAt(j) : ' ');
            x.feed(v);
        }
        x.end(text.length());
    }

    static int tell(DiverBottle x, String text) {
        feed(x, text);
        return x.text();
    }

    /** A new bottle, told by a text that has no fault. */
    static DiverBottle bottle(String text) {
        DiverBottle x = new DiverBottle();
        if (tell(x, text) < 0) due(4, "text() of " + text, x.fault(), 0);
        return x;
    }

    static void taken(String text, int lines) {
        DiverBottle x = new DiverBottle();
        due("text() of " + text, tell(x, text), lines);
        due("fault() of " + text, x.fault(), 0);
    }

    /** The place of the fault is where ^ stands, which is no part of the text. */
    static void faulty(String marked, int fault) {
        int place = marked.indexOf('^');
        String text = marked.substring(0, place) + marked.substring(place + 1);
        DiverBottle x = bottle("drag 9;");
        due("text() of " + marked, tell(x, text), -10 - place);
        due("fault() of " + marked, x.fault(), fault);
        due("rule(3) behind " + marked, x.rule(3), 9);
        due("count(0) behind " + marked, x.count(0), 0);
    }

    static void close() {
        close(true);
    }

    static void close(boolean good) {
        System.out.println(asked + " answers looked at, " + wrong + " not as due");
        if (wrong != 0 || !good) System.exit(1);
    }
}
