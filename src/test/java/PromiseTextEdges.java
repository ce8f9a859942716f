/** Promises 1 to 7: a new object, feed, end, text, fault, rule, diver. */
final class PromiseTextEdges {
    private static final int BAD = Check.BAD, STATE = Check.STATE, FULL = Check.FULL, NONE = Check.NONE;
    private static final int NO_WEIGHT = Check.NO_WEIGHT;
    private static final long BLANKS = 0x2020202020202020L;

    private PromiseTextEdges() {
    }

    private static void due(String call, long got, long want) {
        Check.due(call, got, want);
    }

    private static DiverBottle bottle(String text) {
        return Check.bottle(text);
    }

    // ---- a new object

    @Holds(in = 1, says = "As told at first, no DIVERS;")
    static void newObject() {
        DiverBottle x = new DiverBottle();
        int[] rules = {100, 1000, 293, 8, 201, 0, 0};
        for (int i = 0; i < 7; i++) due("rule(" + i + ")", x.rule(i), rules[i]);
        for (int h = 0; h < 24; h++) due("rule(10 + " + h + ")", x.rule(10 + h), 293);
        for (int i = 0; i < 6; i++) due("now(" + i + ")", x.now(i), 0);
        for (int i = 0; i < 5; i++) due("count(" + i + ")", x.count(i), 0);
        for (int i = 0; i < 2; i++) due("restore(" + i + ")", x.restore(i), STATE);
        due("diver(0, 0)", x.diver(0, 0), NO_WEIGHT);
        due("fault()", x.fault(), 0);
        due("torn()", x.torn(), 0);
    }

    @Holds(in = 1, says = "As told at first, no DIVERS;")
    static void withoutDivers() {
        DiverBottle x = new DiverBottle();
        due("go(1)", x.go(1), 0);
        due("now(0)", x.now(0), 1);
        due("now(2)", x.now(2), 0);
        due("now(3)", x.now(3), 0);
        due("order(0)", x.order(0), BAD);
        due("apart()", x.apart(), NONE);
        due("who()", x.who(), 0);
        due("drop()", x.drop(), 0);
        due("keep(0)", x.keep(0), 0);
        due("restore(0)", x.restore(0), 1);
        due("bubbles(100, 500, 0)", x.bubbles(100, 500, 0), 132);
    }

    @Holds(in = 1, says = "SHEETS of nothing.")
    static void sheetsOfNothing() {
        DiverBottle x = new DiverBottle();
        due("count(5)", x.count(5), NONE);
        for (int k = 0; k < 4; k++) {
            due("lay(" + k + ", 0, 0)", x.lay(k, 0, 0), -11);
            due("read(" + k + ", 0, 0, 1)", x.read(k, 0, 0, 1), 0);
            due("torn()", x.torn(), 1);
        }
    }

    // ---- feed

    @Holds(in = 2, says = "Eight bytes come behind THE TAPE, the highest first: how many it has.")
    static void theHighestByteFirst() {
        DiverBottle x = new DiverBottle();
        due("feed(\"air 900;\")", x.feed(0x616972203930303bL), 8);
        due("feed(\"drag 64;\")", x.feed(0x647261672036343bL), 16);
        due("text()", x.text(), 2);
        due("rule(1)", x.rule(1), 900);
        due("rule(3)", x.rule(3), 64);
        // the highest bit, and each byte apart
        x.feed(0x80ffffffffffffffL);
        due("text() of byte 128", x.text(), -10);
        for (int i = 0; i < 8; i++) {
            x.feed(BLANKS ^ 0x0cL << 8 * (7 - i));
            due("text(), a comma at " + i, x.text(), -10 - i);
        }
    }

    @Holds(in = 2, says = "Eight bytes come behind THE TAPE, the highest first: how many it has.")
    static void behindWhatWasKept() {
        DiverBottle x = new DiverBottle();
        x.feed(0x647261672035ffffL);
        x.end(6);
        due("feed behind 6 bytes", x.feed(0x3b20202020202020L), 14);
        due("text() of drag 5;", x.text(), 1);
        due("rule(3)", x.rule(3), 5);
        due("feed behind text()", x.feed(BLANKS), 8);
    }

    @Holds(in = 2, says = "FULL: more than 320.")
    static void more320() {
        DiverBottle x = new DiverBottle();
        for (int i = 1; i <= 40; i++) due("feed " + i, x.feed(BLANKS), 8 * i);
        due("feed 41", x.feed(BLANKS), FULL);
        for (int n = 319; n > 312; n--) {
            x.end(n);
            due("feed behind " + n, x.feed(BLANKS), FULL);
            due("count(4)", x.count(4), n);
        }
        x.end(312);
        due("feed behind 312", x.feed(BLANKS), 320);
    }

    // ---- end

    @Holds(in = 3, says = "THE TAPE keeps its first n bytes: how many it had.")
    static void theFirstBytes() {
        DiverBottle x = new DiverBottle();
        due("end(0) of nothing", x.end(0), 0);
        x.feed(0x647261672036343bL);
        due("end(8), all", x.end(8), 8);
        due("end(6)", x.end(6), 8);
        due("end(6) once more", x.end(6), 6);
        due("text() of drag 6", x.text(), -16);
        x.feed(0x647261672036343bL);
        due("end(0)", x.end(0), 8);
        due("count(4)", x.count(4), 0);
        due("text() of nothing", x.text(), 0);
    }

    @Holds(in = 3, says = "BAD.")
    static void endBad() {
        DiverBottle x = new DiverBottle();
        Check.bounds("end(n) of nothing", n -> x.end(n), 0, 0, BAD);
        x.feed(BLANKS);
        for (int n : new int[] {-1, 9, 320, Check.MIN, Check.MAX}) due("end(" + n + ") of 8", x.end(n), BAD);
        due("end(8)", x.end(8), 8);
        x.end(5);
        due("end(6) of 5", x.end(6), BAD);
        for (int i = 0; i < 40; i++) x.feed(BLANKS);
        x.end(0);
        for (int i = 0; i < 40; i++) x.feed(BLANKS);
        due("end(321) of 320", x.end(321), BAD);
        due("end(320) of 320", x.end(320), 320);
    }

    // ---- text

    @Holds(in = 4, says = "THE TAPE (empty then) tells all: how many lines;")
    static void howManyLines() {
        DiverBottle x = new DiverBottle();
        due("text() of nothing", x.text(), 0);
        due("text() of blanks", Check.tell(x, "   "), 0);
        due("text() of one", Check.tell(x, "drag 5;"), 1);
        due("count(4)", x.count(4), 0);
        due("text() of nothing once more", x.text(), 0);
        due("rule(3): nothing tells it as at first", x.rule(3), 8);
    }

    @Holds(in = 4, says = "-10 less the place of its FAULT: that which was told stays.")
    static void placeOfTheFault() {
        DiverBottle x = bottle("drag 9;salt 5 6;ring 7;hour 3 260;diver 5 6 leak 7 rate 8 hook;");
        due("place 0", Check.tell(x, ",drag 5;"), -10);
        due("count(4)", x.count(4), 0);
        due("the last place", Check.tell(x, " ".repeat(319) + ","), -329);
        due("the end of 320", Check.tell(x, " ".repeat(316) + "drag"), -330);
        due("the end", Check.tell(x, "height 50;air 900;warm 300;drag 5;salt 1 1;ring 1;hour 3 250;diver 1 1 hook"), -85);
        int[] rules = {100, 1000, 293, 9, 5, 6, 7};
        for (int i = 0; i < 7; i++) due("rule(" + i + ")", x.rule(i), rules[i]);
        due("rule(13)", x.rule(13), 260);
        int[] is = {5, 6, 7, 8, 1};
        for (int i = 0; i < 5; i++) due("diver(0, " + i + ")", x.diver(0, i), is[i]);
        due("diver(1, 0)", x.diver(1, 0), NO_WEIGHT);
    }

    // ---- fault

    @Holds(in = 5, says = "The FAULT of the latest text();")
    static void faultOfTheLatest() {
        String[] texts = {",", "a", "drag 0;", "drag 5;drag 5;", "diver 1 1;".repeat(7)};
        DiverBottle x = new DiverBottle();
        for (int i = 0; i < 5; i++) {
            Check.tell(x, texts[i]);
            due("fault() of " + texts[i], x.fault(), i + 1);
        }
        due("asked once more", x.fault(), 5);
        x.feed(0L);
        x.end(0);
        x.thumb(501);
        due("behind other calls", x.fault(), 5);
    }

    @Holds(in = 5, says = "0.")
    static void faultZero() {
        DiverBottle x = new DiverBottle();
        due("without a text", x.fault(), 0);
        Check.tell(x, ",");
        x.text();
        due("behind a text without one", x.fault(), 0);
    }

    // ---- rule

    @Holds(in = 6, says = "RULES 0 to 6 (6: as told);")
    static void ringAsTold() {
        DiverBottle x = bottle("height 10;drag 64;ring 7;diver 65 0 hook;");
        due("rule(6)", x.rule(6), 7);
        x.go(99);
        due("LOAD", x.diver(0, 5), 7);
        due("rule(6) when it is taken", x.rule(6), 7);
        due("rule(0)", x.rule(0), 10);
        due("rule(6) untold", bottle("").rule(6), 0);
    }

    @Holds(in = 6, says = "RULES 0 to 6 (6: as told);")
    static void warmAsItIs() {
        DiverBottle x = bottle("warm 300;");
        due("rule(2)", x.rule(2), 300);
        x.warm(350);
        due("rule(2)", x.rule(2), 350);
    }

    @Holds(in = 6, says = "10 and h: the WARMTH of HOUR h.")
    static void warmthOfAnHour() {
        DiverBottle x = bottle("hour 0 250;hour 1 251;hour 22 349;hour 23 350;");
        int[] hours = {0, 1, 2, 21, 22, 23}, warmths = {250, 251, 293, 293, 349, 350};
        for (int i = 0; i < 6; i++) due("rule(10 + " + hours[i] + ")", x.rule(10 + hours[i]), warmths[i]);
    }

    @Holds(in = 6, says = "BAD.")
    static void ruleBad() {
        DiverBottle x = new DiverBottle();
        for (int what : new int[] {Check.MIN, -1, 7, 8, 9, 34, Check.MAX}) due("rule(" + what + ")", x.rule(what), BAD);
    }

    // ---- diver

    @Holds(in = 7, says = "Of a DIVER: 0 HEAVY, 1 BUBBLE, 2 LEAK, 3 RATE, 4 whether he has a HOOK, 5 LOAD, 6 DEPTH, 7 FINE DEPTH, 8 PACE, 9 WEIGHT where he is.")
    static void ofADiver() {
        DiverBottle x = bottle("salt 1 99;drag 64;diver 65 3 leak 98 rate 97 hook;diver 1 9999;");
        int[] first = {65, 3, 98, 97, 1, 0, 0, 0, 0, 65};
        for (int what = 0; what < 10; what++) due("diver(0, " + what + ")", x.diver(0, what), first[what]);
        x.go(1);
        int[] then = {65, 3, 98, 97, 1, 0, 1, 64, 64, -34};
        for (int what = 0; what < 10; what++) due("diver(0, " + what + ") then", x.diver(0, what), then[what]);
        x.set(1, 100);
        x.thumb(500);
        // 9999 * 293 by 1600
        due("WEIGHT by THUMB, on the floor", x.diver(1, 9), 1 - 1831 - 99);
    }

    @Holds(in = 7, says = "BAD -1000000.")
    static void diverBad() {
        DiverBottle x = bottle("diver 65 0;diver 1 1;");
        Check.bounds("diver(k, 0)", k -> x.diver(k, 0), 0, 1, NO_WEIGHT);
        Check.bounds("diver(0, what)", what -> x.diver(0, what), 0, 9, NO_WEIGHT);
        // -1 may be a WEIGHT or a PACE
        due("a WEIGHT of -1", bottle("salt 0 2;diver 1 0;").diver(0, 9), -1);
    }
}
