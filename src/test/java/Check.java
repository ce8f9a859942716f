/** What the tests of the project share: a bottle that is told by a text, and the counting of wrong answers. */
final class Check {
    private static int wrong = 0, asked = 0;

    private Check() {
    }

    static void due(int promise, String call, long got, long want) {
        asked++;
        if (got == want) return;
        wrong++;
        System.out.println("promise " + promise + ": " + call + " answered " + got + ", due is " + want);
    }

    /** Puts a text on an empty tape, byte for byte. */
    static void feed(DiverBottle x, String text) {
        x.end(0);
        for (int i = 0; i < text.length(); i += 8) {
            long v = 0;
            for (int j = i; j < i + 8; j++) v = v << 8 | (j < text.length() ? text.charAt(j) : ' ');
            x.feed(v);
        }
        x.end(text.length());
    }

    static int tell(DiverBottle x, String text) {
        feed(x, text);
        return x.text();
    }

    /** A new bottle, told by a text that has no fault. */
    static DiverBottle bottle(String text) {
        DiverBottle x = new DiverBottle();
        if (tell(x, text) < 0) due(4, "text() of " + text, x.fault(), 0);
        return x;
    }

    static void close() {
        System.out.println(asked + " answers looked at, " + wrong + " not as due");
        if (wrong != 0) System.exit(1);
    }
}
