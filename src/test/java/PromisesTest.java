/** Promises 1 to 43, each with ordinary inputs, the edges that the document names, and wrong inputs. */
public final class PromisesTest {
    private static final int BAD = -1, STATE = -2, FULL = -3, NONE = -4, NO_WEIGHT = -1000000;
    private static final int MAX = Integer.MAX_VALUE, MIN = Integer.MIN_VALUE;

    /** In one TICK he goes 64 down: from DEPTH 9 just to the floor. */
    private static final String JUST_DOWN = "height 10;drag 2;ring 7;diver 128 0 hook leak 5;diver 128 3 hook leak 5;";
    /** He goes with the thumb, takes the ring, and comes up with it without the thumb. */
    private static final String FETCHER = "height 10;ring 1;diver 100 360 hook;";

    private static final int PARTS = 39;

    public static void main(String[] args) {
        newObject();
        feed();
        end();
        text();
        textFaults();
        textTellsAll();
        rule();
        diver();
        thumbAndWarm();
        go();
        floorAndTop();
        ring();
        set();
        now();
        press();
        weighs();
        turning();
        holding();
        back();
        goesAt();
        orderAndApart();
        lifts();
        bubbles();
        atThumb();
        spread();
        hold();
        holdWrong();
        late();
        step();
        hours();
        trips();
        bladder();
        beats();
        saw();
        fits();
        who();
        images();
        sheets();
        read();
        readRefused();
        count();
        sixDivers();
        Check.close();
    }

    private static void due(int promise, String call, long got, long want) {
        Check.due(promise, call, got, want);
    }

    private static DiverBottle bottle(String text) {
        return Check.bottle(text);
    }

    private static void newObject() {
        DiverBottle x = new DiverBottle();
        int[] rules = {100, 1000, 293, 8, 201, 0, 0};
        for (int i = 0; i < 7; i++) due(1, "rule(" + i + ")", x.rule(i), rules[i]);
        for (int h = 0; h < 24; h++) due(1, "rule(10 + " + h + ")", x.rule(10 + h), 293);
        for (int i = 0; i < 5; i++) due(1, "count(" + i + ")", x.count(i), 0);
        due(1, "count(5)", x.count(5), NONE);
        for (int i = 0; i < 6; i++) due(1, "now(" + i + ")", x.now(i), 0);
        for (int k = 0; k < 4; k++) due(1, "lay(" + k + ", 0, 1)", x.lay(k, 0, 1), -11);
        due(1, "fault()", x.fault(), 0);
        due(1, "torn()", x.torn(), 0);
        due(1, "restore(0)", x.restore(0), STATE);
        due(1, "restore(1)", x.restore(1), STATE);
        due(1, "diver(0, 0)", x.diver(0, 0), NO_WEIGHT);
        due(1, "apart()", x.apart(), NONE);
        due(1, "who()", x.who(), 0);
        due(1, "drop()", x.drop(), 0);
        due(1, "go(1)", x.go(1), 0);
        due(1, "press(100)", x.press(100), 1100);
        due(1, "text()", x.text(), 0);
    }

    private static void feed() {
        DiverBottle x = new DiverBottle();
        due(2, "feed(\"air 900;\")", x.feed(0x616972203930303BL), 8);
        due(2, "text()", x.text(), 1);
        due(2, "rule(1)", x.rule(1), 900);
        for (int i = 1; i <= 40; i++) due(2, "feed(-1)", x.feed(-1L), 8 * i);
        due(2, "feed(-1)", x.feed(-1L), FULL);
        due(2, "count(4)", x.count(4), 320);
        due(2, "end(313)", x.end(313), 320);
        due(2, "feed(0)", x.feed(0L), FULL);
        due(2, "end(312)", x.end(312), 313);
        due(2, "feed(0)", x.feed(0L), 320);
        due(2, "text()", x.text(), -10);
        due(2, "fault()", x.fault(), 1);
    }

    private static void end() {
        DiverBottle x = new DiverBottle();
        due(3, "end(0)", x.end(0), 0);
        due(3, "end(1)", x.end(1), BAD);
        x.feed(0x647261672033343BL);
        due(3, "end(9)", x.end(9), BAD);
        due(3, "end(-1)", x.end(-1), BAD);
        due(3, "end(MIN)", x.end(MIN), BAD);
        due(3, "end(8)", x.end(8), 8);
        due(3, "end(6)", x.end(6), 8);
        due(3, "end(7)", x.end(7), BAD);
        x.feed(0x3B20202020202020L);
        due(3, "count(4)", x.count(4), 14);
        due(3, "text()", x.text(), 1);
        due(3, "rule(3)", x.rule(3), 3);
    }

    private static void good(String text, int lines) {
        DiverBottle x = new DiverBottle();
        due(4, "text() of " + text, Check.tell(x, text), lines);
        due(5, "fault() of " + text, x.fault(), 0);
        due(4, "count(4)", x.count(4), 0);
    }

    private static void bad(String text, int fault, int place) {
        DiverBottle x = new DiverBottle();
        Check.tell(x, "drag 9;");
        due(4, "text() of " + text, Check.tell(x, text), -10 - place);
        due(5, "fault() of " + text, x.fault(), fault);
        due(4, "rule(3) behind " + text, x.rule(3), 9);
        due(4, "count(0) behind " + text, x.count(0), 0);
        due(4, "count(4) behind " + text, x.count(4), 0);
    }

    private static void text() {
        good("", 0);
        good("   ", 0);
        good(" ".repeat(320), 0);
        good("height10;air800;warm250;drag1;salt0 0;ring0;", 6);
        good("height 200 ; air 1200 ; warm 350 ; drag 64 ; salt 201 99 ; ring 999 ;", 6);
        good("hour 0 250;hour 23 350;hour 0001 0300;", 3);
        good("diver 1 0;diver 999 9999;diver 0007 0000;", 3);
        good("diver 1 1 hook leak 0 rate 99;diver 1 1rate 0leak 99hook;", 2);
        good("diver 1 1;".repeat(6), 6);
        good("air 1000;" + " ".repeat(304) + "ring 1;", 2);
        DiverBottle x = bottle("hour 3 260;salt 7 8;warm 300;diver 5 6 rate 7 leak 8;height 50;");
        int[] rules = {50, 1000, 300, 8, 7, 8, 0};
        for (int i = 0; i < 7; i++) due(4, "rule(" + i + ")", x.rule(i), rules[i]);
        due(4, "rule(13)", x.rule(13), 260);
        due(4, "rule(14)", x.rule(14), 300);
        due(4, "diver(0, 2)", x.diver(0, 2), 8);
        due(4, "diver(0, 3)", x.diver(0, 3), 7);
        due(4, "diver(0, 4)", x.diver(0, 4), 0);
    }

    private static void textFaults() {
        bad(",", 1, 0);
        bad("drag 5\t;", 1, 6);
        bad("Drag 5;", 1, 0);
        bad("drag 5;\u0000", 1, 7);
        bad("drag 5;\u00e1", 1, 7);
        bad("drag 00005;", 1, 5);
        bad("drag 123456789012;", 1, 5);
        bad("drag 12345 ,", 1, 5);
        bad("drag 5 12345;", 1, 7);
        bad("diver 1 1 12345;", 1, 10);
        bad("drag 5", 2, 6);
        bad("drag 5  ", 2, 8);
        bad("drag", 2, 4);
        bad("drag;", 2, 4);
        bad("drag drag;", 2, 5);
        bad("drag 5 5;", 2, 7);
        bad("salt 5 5 5;", 2, 9);
        bad("salt 5;", 2, 6);
        bad(";", 2, 0);
        bad("drag 5;;", 2, 7);
        bad("5 drag;", 2, 0);
        bad("dra 5;", 2, 0);
        bad("drags 5;", 2, 0);
        bad("krag 5;", 2, 0);
        bad("z 5;", 2, 0);
        bad(" ".repeat(316) + "drag", 2, 320);
        bad(" ".repeat(314) + "drag 5", 2, 320);
        bad("leak 5;", 2, 0);
        bad("hour 5;", 2, 6);
        bad("diver;", 2, 5);
        bad("diver 1;", 2, 7);
        bad("diver 1 1 5;", 2, 10);
        bad("diver 1 1 drag 5;", 2, 10);
        bad("diver 1 1 leak leak 5;", 2, 15);
        bad("diver 1 1 hook 5;", 2, 15);
        bad("diver 1 1 hook", 2, 14);
        bad("nonsense ,", 2, 0);
        bad("height 9;", 3, 7);
        bad("height 201;", 3, 7);
        bad("air 799;", 3, 4);
        bad("air 1201;", 3, 4);
        bad("warm 249;", 3, 5);
        bad("warm 351;", 3, 5);
        bad("drag 0;", 3, 5);
        bad("drag 65,", 3, 5);
        bad("salt 202 5;", 3, 5);
        bad("salt 5 100;", 3, 7);
        bad("ring 1000;", 3, 5);
        bad("hour 24 ,", 3, 5);
        bad("hour 3 249;", 3, 7);
        bad("hour 3 351;", 3, 7);
        bad("diver 0 1;", 3, 6);
        bad("diver 1000 1;", 3, 6);
        bad("diver 1 1 leak 100;", 3, 15);
        bad("diver 1 1 rate 100;", 3, 15);
        bad("hour 3 260;hour 3,", 4, 16);
        bad("hour 3 260;hour 03 260;", 4, 16);
        bad("drag 5;drag,", 4, 7);
        bad("height 50; height 50;", 4, 11);
        bad("air 900;air", 4, 8);
        bad("warm 300;warm 300;", 4, 9);
        bad("salt 1 1;salt 1 1;", 4, 9);
        bad("ring 1;ring 1;", 4, 7);
        bad("diver 1 1 leak 5 leak 5;", 4, 17);
        bad("diver 1 1 rate 0 rate,", 4, 17);
        bad("diver 1 1 hook leak 0 hook;", 4, 22);
        bad("diver 1 1 leak 0 leak;", 4, 17);
        bad("diver 1 1;".repeat(6) + "diver,", 5, 60);
        DiverBottle x = new DiverBottle();
        Check.tell(x, ",");
        due(5, "fault()", x.fault(), 1);
        x.feed(0L);
        x.end(0);
        due(5, "fault() is of the latest text()", x.fault(), 1);
        x.text();
        due(5, "fault()", x.fault(), 0);
    }

    private static void textTellsAll() {
        DiverBottle x = bottle(FETCHER + "hour 3 260;salt 5 1;");
        x.thumb(500);
        x.go(99);
        x.thumb(0);
        x.go(200);
        x.drop();
        x.thumb(9);
        x.warm(300);
        x.saw(0, 0, true);
        x.keep(0);
        x.keep(1);
        x.sheet(0, 1, 7);
        due(4, "now(5)", x.now(5), 1);
        due(4, "text() that is refused", Check.tell(x, "drag 3;diver 1"), -24);
        due(4, "now(0)", x.now(0), 299);
        due(4, "now(1)", x.now(1), 9);
        due(4, "rule(2)", x.rule(2), 300);
        due(4, "rule(3)", x.rule(3), 8);
        due(4, "count(0)", x.count(0), 1);
        due(4, "count(2)", x.count(2), 1);
        due(4, "count(3)", x.count(3), 2);
        due(4, "text()", Check.tell(x, "ring 2;diver 7 8;diver 9 9;"), 3);
        int[] rules = {100, 1000, 293, 8, 201, 0, 2};
        for (int i = 0; i < 7; i++) due(4, "rule(" + i + ")", x.rule(i), rules[i]);
        due(4, "rule(13)", x.rule(13), 293);
        int[] nows = {0, 0, 3, 0, 1, 0};
        for (int i = 0; i < 6; i++) due(4, "now(" + i + ")", x.now(i), nows[i]);
        int[] counts = {2, 0, 0, 0, 0, 7};
        for (int i = 0; i < 6; i++) due(4, "count(" + i + ")", x.count(i), counts[i]);
        due(4, "restore(0)", x.restore(0), STATE);
        due(4, "text() of nothing", Check.tell(x, ""), 0);
        due(4, "count(0)", x.count(0), 0);
        due(4, "rule(6)", x.rule(6), 0);
        due(4, "now(4)", x.now(4), 0);
    }

    private static void rule() {
        DiverBottle x = bottle("height 10;air 800;warm 250;drag 1;salt 0 99;ring 999;hour 0 251;hour 23 350;diver 999 0 hook;");
        int[] rules = {10, 800, 250, 1, 0, 99, 999};
        for (int i = 0; i < 7; i++) due(6, "rule(" + i + ")", x.rule(i), rules[i]);
        due(6, "rule(10)", x.rule(10), 251);
        due(6, "rule(11)", x.rule(11), 250);
        due(6, "rule(33)", x.rule(33), 350);
        for (int what : new int[] {-1, 7, 8, 9, 34, MAX, MIN}) due(6, "rule(" + what + ")", x.rule(what), BAD);
        x.warm(300);
        due(6, "rule(2) behind warm(300)", x.rule(2), 300);
        due(6, "rule(11) is as warm was told", x.rule(11), 250);
        DiverBottle taken = bottle(JUST_DOWN);
        taken.set(0, 9);
        taken.go(1);
        due(6, "rule(6) when it is taken", taken.rule(6), 7);
    }

    private static void diver() {
        DiverBottle x = bottle("diver 140 500 leak 3 rate 4 hook;diver 7 0;");
        int[] is = {140, 500, 3, 4, 1, 0, 0, 0, 0, -6};
        for (int i = 0; i < 10; i++) due(7, "diver(0, " + i + ")", x.diver(0, i), is[i]);
        due(7, "diver(1, 4)", x.diver(1, 4), 0);
        due(7, "diver(1, 9)", x.diver(1, 9), 7);
        x.thumb(50);
        due(7, "diver(0, 9)", x.diver(0, 9), 1);
        for (int k : new int[] {-1, 2, 6, MAX, MIN}) due(7, "diver(" + k + ", 0)", x.diver(k, 0), NO_WEIGHT);
        for (int what : new int[] {-1, 10, MAX, MIN}) due(7, "diver(0, what)", x.diver(0, what), NO_WEIGHT);
    }

    private static void thumbAndWarm() {
        DiverBottle x = new DiverBottle();
        due(8, "thumb(500)", x.thumb(500), 0);
        due(8, "thumb(501)", x.thumb(501), BAD);
        due(8, "thumb(-1)", x.thumb(-1), BAD);
        due(8, "now(1)", x.now(1), 500);
        due(8, "thumb(0)", x.thumb(0), 500);
        due(9, "warm(250)", x.warm(250), 293);
        due(9, "warm(249)", x.warm(249), BAD);
        due(9, "warm(351)", x.warm(351), BAD);
        due(9, "warm(350)", x.warm(350), 250);
        due(9, "rule(2)", x.rule(2), 350);
    }

    private static void go() {
        DiverBottle x = bottle("diver 10 0;diver 1 37;");
        x.set(1, 50);
        int[] fines = {9, 26, 50, 80}, paces = {9, 17, 24, 30}, upFines = {3192, 3177};
        for (int i = 0; i < 4; i++) {
            due(10, "go(1)", x.go(1), 0);
            due(10, "diver(0, 7)", x.diver(0, 7), fines[i]);
            due(10, "diver(0, 8)", x.diver(0, 8), paces[i]);
            if (i < 2) due(10, "diver(1, 7)", x.diver(1, 7), upFines[i]);
            if (i == 0) due(10, "diver(1, 8)", x.diver(1, 8), -8);
            if (i == 0) due(10, "diver(1, 6)", x.diver(1, 6), 49);
        }
        due(10, "diver(0, 6)", x.diver(0, 6), 1);
        due(10, "now(0)", x.now(0), 4);
        due(10, "go(0)", x.go(0), BAD);
        due(10, "go(-1)", x.go(-1), BAD);
        due(10, "go(1000)", x.go(1000), BAD);
        due(10, "now(0)", x.now(0), 4);
        due(10, "go(999)", x.go(999), 1);
        due(10, "now(0)", x.now(0), 1003);
        due(10, "now(2)", x.now(2), 2);
        DiverBottle held = bottle("drag 1;diver 999 0;");
        due(10, "go(99), drag 1", held.go(99), 0);
        due(10, "diver(0, 7), drag 1", held.diver(0, 7), 0);
    }

    private static void floorAndTop() {
        DiverBottle x = bottle(JUST_DOWN);
        x.set(0, 9);
        x.set(1, 8);
        due(10, "go(1), just to the floor", x.go(1), 1);
        due(10, "diver(0, 7)", x.diver(0, 7), 640);
        due(10, "diver(0, 8)", x.diver(0, 8), 0);
        due(10, "BUBBLE is 0 at least", x.diver(0, 1), 0);
        due(10, "diver(1, 7)", x.diver(1, 7), 576);
        due(10, "diver(1, 8)", x.diver(1, 8), 64);
        due(10, "diver(1, 1)", x.diver(1, 1), 3);
        due(10, "go(1), beyond the floor", x.go(1), 3);
        due(10, "diver(1, 7)", x.diver(1, 7), 640);
        due(10, "diver(1, 8)", x.diver(1, 8), 0);
        DiverBottle leaks = bottle("height 10;diver 200 20 leak 3;");
        leaks.go(999);
        due(10, "one LEAK on the floor", leaks.diver(0, 1), 17);
        leaks.set(0, 10);
        leaks.go(1);
        due(10, "set to the floor does not leak", leaks.diver(0, 1), 17);
        leaks.set(0, 9);
        leaks.go(99);
        due(10, "each time a LEAK", leaks.diver(0, 1), 14);
        DiverBottle up = bottle("height 10;drag 2;diver 1 441;");
        up.set(0, 1);
        up.go(1);
        due(10, "diver(0, 7), just to the top", up.diver(0, 7), 0);
        due(10, "diver(0, 8), just to the top", up.diver(0, 8), 0);
        up.set(0, 2);
        up.go(9);
        due(10, "diver(0, 8), beyond the top", up.diver(0, 8), 0);
        due(10, "now(2)", up.now(2), 1);
    }

    private static void ring() {
        DiverBottle two = bottle(JUST_DOWN);
        two.set(0, 9);
        two.set(1, 9);
        due(10, "go(1)", two.go(1), 3);
        due(10, "diver(0, 5)", two.diver(0, 5), 7);
        due(10, "diver(1, 5)", two.diver(1, 5), 0);
        due(12, "now(4)", two.now(4), 0);
        due(13, "drop()", two.drop(), 1);
        due(13, "diver(0, 5)", two.diver(0, 5), 0);
        due(13, "now(4)", two.now(4), 1);
        due(13, "drop()", two.drop(), 0);
        two.go(1);
        due(10, "who is there already takes none", two.now(4), 1);

        DiverBottle x = bottle(FETCHER);
        x.thumb(500);
        due(10, "go(60)", x.go(60), 1);
        due(10, "diver(0, 5)", x.diver(0, 5), 1);
        due(10, "diver(0, 9)", x.diver(0, 9), 101 - 105480 / 1510);
        x.keep(0);
        x.thumb(0);
        due(10, "go(200)", x.go(200), 0);
        due(12, "now(2)", x.now(2), 1);
        due(10, "diver(0, 5)", x.diver(0, 5), 0);
        due(12, "now(4)", x.now(4), 0);
        due(12, "now(5)", x.now(5), 1);
        due(13, "drop()", x.drop(), 1);
        due(12, "now(5)", x.now(5), 1);
        due(38, "restore(0)", x.restore(0), 60);
        due(38, "diver(0, 5)", x.diver(0, 5), 1);
        due(38, "now(4)", x.now(4), 0);
        due(38, "now(5)", x.now(5), 0);
        due(11, "set(0, 0)", x.set(0, 0), 10);
        x.thumb(0);
        x.go(1);
        due(11, "set to the top does not fetch", x.now(5), 0);
        due(11, "diver(0, 5)", x.diver(0, 5), 1);
        due(13, "drop()", x.drop(), 1);
        due(13, "diver(0, 5)", x.diver(0, 5), 0);

        DiverBottle noHook = bottle("height 10;drag 2;ring 7;diver 128 0;");
        noHook.go(99);
        due(10, "without a HOOK it lies", noHook.now(4), 1);
        DiverBottle noRing = bottle("height 10;drag 2;diver 128 0 hook;");
        noRing.go(99);
        due(10, "without THE RING no LOAD", noRing.diver(0, 5), 0);
        due(13, "drop() without THE RING", noRing.drop(), 0);
        due(13, "now(4)", noRing.now(4), 0);
    }

    private static void set() {
        DiverBottle x = bottle(JUST_DOWN);
        x.go(1);
        due(11, "diver(0, 8)", x.diver(0, 8), 64);
        due(11, "set(0, 5)", x.set(0, 5), 1);
        due(11, "diver(0, 7)", x.diver(0, 7), 320);
        due(11, "diver(0, 8)", x.diver(0, 8), 0);
        due(11, "set(0, 10)", x.set(0, 10), 5);
        due(11, "now(3)", x.now(3), 1);
        due(11, "diver(0, 5)", x.diver(0, 5), 0);
        x.go(5);
        due(11, "diver(0, 5)", x.diver(0, 5), 0);
        due(11, "set(0, 11)", x.set(0, 11), BAD);
        due(11, "set(0, -1)", x.set(0, -1), BAD);
        due(11, "set(2, 0)", x.set(2, 0), BAD);
        due(11, "set(-1, 0)", x.set(-1, 0), BAD);
        due(11, "set(0, 0)", x.set(0, 0), 10);
    }

    private static void now() {
        DiverBottle x = bottle("height 10;ring 1;diver 5 0;diver 1 99;diver 5 0;");
        due(12, "now(2)", x.now(2), 7);
        due(12, "now(3)", x.now(3), 0);
        due(12, "now(4)", x.now(4), 1);
        x.go(1);
        due(12, "now(2): at DEPTH 0 but not at the top", x.now(2), 2);
        due(12, "diver(0, 6)", x.diver(0, 6), 0);
        x.set(2, 10);
        due(12, "now(3)", x.now(3), 4);
        x.thumb(77);
        due(12, "now(1)", x.now(1), 77);
        due(12, "now(0)", x.now(0), 1);
        for (int what : new int[] {-1, 6, MAX, MIN}) due(12, "now(" + what + ")", x.now(what), BAD);
    }

    private static void press() {
        DiverBottle x = bottle("height 10;air 900;");
        due(14, "press(0)", x.press(0), 900);
        x.thumb(20);
        due(14, "press(10)", x.press(10), 930);
        due(14, "press(11)", x.press(11), BAD);
        due(14, "press(-1)", x.press(-1), BAD);
    }

    private static void weighs() {
        DiverBottle x = bottle("salt 60 9;diver 100 0;diver 140 500;");
        due(15, "weighs(0, 59, 0)", x.weighs(0, 59, 0), 100);
        due(15, "weighs(0, 60, 0)", x.weighs(0, 60, 0), 91);
        due(15, "weighs(1, 0, 0)", x.weighs(1, 0, 0), -6);
        x.thumb(99);
        due(15, "weighs(1, 0, 0)", x.weighs(1, 0, 0), -6);
        due(15, "weighs(1, 0, 500)", x.weighs(1, 0, 500), 140 - 97);
        due(15, "weighs(1, 100, 500)", x.weighs(1, 100, 500), 140 - 91 - 9);
        x.warm(250);
        due(15, "weighs(1, 0, 0)", x.weighs(1, 0, 0), 15);
        due(15, "weighs(2, 0, 0)", x.weighs(2, 0, 0), NO_WEIGHT);
        due(15, "weighs(-1, 0, 0)", x.weighs(-1, 0, 0), NO_WEIGHT);
        due(15, "weighs(0, 101, 0)", x.weighs(0, 101, 0), NO_WEIGHT);
        due(15, "weighs(0, -1, 0)", x.weighs(0, -1, 0), NO_WEIGHT);
        due(15, "weighs(0, 0, 501)", x.weighs(0, 0, 501), NO_WEIGHT);
        due(15, "weighs(0, 0, -1)", x.weighs(0, 0, -1), NO_WEIGHT);
        DiverBottle fresh = bottle("salt 0 9;diver 5 0;");
        due(15, "salt 0", fresh.weighs(0, 0, 0), -4);
    }

    private static void turning() {
        DiverBottle x = bottle("diver 140 500;diver 1 9999;diver 5 0;");
        due(16, "turning(0, 0)", x.turning(0, 0), 40);
        due(16, "turning(0, 10)", x.turning(0, 10), 30);
        due(16, "turning(0, 40)", x.turning(0, 40), 0);
        due(16, "turning(1, 500)", x.turning(1, 500), NONE);
        due(16, "turning(2, 0)", x.turning(2, 0), 0);
        due(16, "turning(3, 0)", x.turning(3, 0), BAD);
        due(16, "turning(-1, 0)", x.turning(-1, 0), BAD);
        due(16, "turning(0, 501)", x.turning(0, 501), BAD);
        due(16, "turning(0, -1)", x.turning(0, -1), BAD);
        due(16, "turning at the floor", bottle("height 40;diver 140 500;").turning(0, 0), 40);
        due(16, "turning, one DEPTH too high", bottle("height 39;diver 140 500;").turning(0, 0), NONE);
    }

    private static void holding() {
        due(17, "holding", bottle("salt 1 99;diver 50 0;").holding(0, 0), 1);
        due(17, "holding, WEIGHT 0", bottle("salt 5 9;diver 9 0;").holding(0, 0), 5);
        due(17, "holding at the floor", bottle("height 10;salt 10 9;diver 9 0;").holding(0, 0), 10);
        due(17, "holding, above it 0", bottle("salt 40 9;diver 140 500;").holding(0, 0), NONE);
        due(17, "holding by a THUMB", bottle("salt 40 9;diver 140 500;").holding(0, 10), 40);
        DiverBottle x = bottle("diver 5 0;");
        due(17, "holding without salt", x.holding(0, 0), NONE);
        due(17, "holding from 0 on in salt", bottle("salt 0 9;diver 5 0;").holding(0, 0), NONE);
        due(17, "holding(1, 0)", x.holding(1, 0), BAD);
        due(17, "holding(-1, 0)", x.holding(-1, 0), BAD);
        due(17, "holding(0, -1)", x.holding(0, -1), BAD);
        due(17, "holding(0, 501)", x.holding(0, 501), BAD);
    }

    private static void back() {
        DiverBottle x = bottle("diver 140 500;diver 5 0;diver 140 530;diver 140 479;diver 100 342;");
        x.thumb(500);
        due(18, "back(0)", x.back(0), 39);
        due(18, "back(1)", x.back(1), NONE);
        due(18, "back(2)", x.back(2), 100);
        due(18, "back(3): WEIGHT 0 at the top", x.back(3), NONE);
        due(18, "back(5)", x.back(5), BAD);
        due(18, "back(-1)", x.back(-1), BAD);
        // at all DEPTHS above: light again in the salt does not count
        due(18, "back, salt", bottle("salt 60 50;diver 140 500;").back(0), 39);
    }

    private static void goesAt() {
        DiverBottle x = bottle("diver 140 500;diver 5 0;diver 1 9999;diver 100 512;diver 100 511;");
        x.thumb(7);
        due(19, "goesAt(0)", x.goesAt(0), 47);
        due(19, "goesAt(1)", x.goesAt(1), 0);
        due(19, "goesAt(2)", x.goesAt(2), NONE);
        due(19, "goesAt(3): with 501", x.goesAt(3), NONE);
        due(19, "goesAt(4)", x.goesAt(4), 498);
        due(19, "goesAt(5)", x.goesAt(5), BAD);
        due(19, "goesAt(-1)", x.goesAt(-1), BAD);
        x.warm(250);
        due(19, "goesAt(0)", x.goesAt(0), 0);
        DiverBottle salt = bottle("salt 0 50;diver 50 0;diver 51 0;");
        due(19, "goesAt: WEIGHT 0", salt.goesAt(0), NONE);
        due(19, "goesAt: WEIGHT 1", salt.goesAt(1), 0);
        due(19, "goesAt: salt from 1 on", bottle("salt 1 50;diver 140 500;").goesAt(0), 47);
        due(19, "goesAt: 500", bottle("diver 293 1499;").goesAt(0), 500);
        due(19, "goesAt: 501", bottle("diver 293 1500;").goesAt(0), NONE);
    }

    private static void orderAndApart() {
        DiverBottle x = bottle("diver 1 9999;diver 140 500;diver 140 500;diver 2 0;diver 1 9998;");
        int[] line = {3, 1, 2, 0, 4};
        for (int i = 0; i < 5; i++) due(20, "order(" + i + ")", x.order(i), line[i]);
        for (int i : new int[] {-1, 5, 6, MAX, MIN}) due(20, "order(" + i + ")", x.order(i), BAD);
        due(21, "apart()", x.apart(), 0);
        due(21, "apart()", bottle("diver 140 500;diver 2 0;diver 1 9999;diver 140 520;").apart(), 42);
        due(21, "apart(), one goes", bottle("diver 140 500;diver 1 9999;").apart(), NONE);
        due(21, "apart(), none goes", bottle("diver 1 9999;diver 1 9999;").apart(), NONE);
        due(21, "apart(), alone", bottle("diver 140 500;").apart(), NONE);
    }

    private static void lifts() {
        DiverBottle x = bottle("diver 140 600;diver 1 9999;diver 140 500;diver 140 530;");
        x.thumb(500);
        due(22, "lifts(0)", x.lifts(0), 18);
        due(22, "lifts(1)", x.lifts(1), 999);
        due(22, "lifts(2)", x.lifts(2), NONE);
        due(22, "lifts(3)", x.lifts(3), 0);
        due(22, "lifts(4)", x.lifts(4), BAD);
        due(22, "lifts(-1)", x.lifts(-1), BAD);
        // 175800 by 1059 is 166: the salt below does not help
        due(22, "lifts, salt", bottle("salt 60 50;diver 140 600;").lifts(0), 25);
        due(22, "lifts, heaviest at the top", bottle("salt 1 50;diver 140 600;").lifts(0), 34);
        DiverBottle loaded = bottle(FETCHER);
        int bare = loaded.lifts(0);
        loaded.thumb(500);
        loaded.go(60);
        due(22, "lifts is without his LOAD", loaded.lifts(0), bare);
        due(22, "lifts is without his LOAD", bare, 3);
    }

    private static void bubbles() {
        DiverBottle x = new DiverBottle();
        x.thumb(99);
        due(23, "bubbles(100, 500, 0)", x.bubbles(100, 500, 0), 132);
        due(23, "bubbles(100, 500, 1)", x.bubbles(100, 500, 1), 380);
        due(23, "bubbles(100, 500, 2)", x.bubbles(100, 500, 2), 511);
        due(23, "bubbles(100, 40, 0)", x.bubbles(100, 40, 0), 0);
        due(23, "bubbles(100, 40, 1)", x.bubbles(100, 40, 1), NONE);
        due(23, "bubbles(100, 40, 2)", x.bubbles(100, 40, 2), NONE);
        due(23, "bubbles(999, 500, 0)", x.bubbles(999, 500, 0), 5114 - 3755 + 1);
        due(23, "bubbles(1, 500, 0)", x.bubbles(1, 500, 0), 0);
        due(23, "bubbles(0, 0, 0)", x.bubbles(0, 0, 0), BAD);
        due(23, "bubbles(1000, 0, 0)", x.bubbles(1000, 0, 0), BAD);
        due(23, "bubbles(1, -1, 0)", x.bubbles(1, -1, 0), BAD);
        due(23, "bubbles(1, 501, 0)", x.bubbles(1, 501, 0), BAD);
        due(23, "bubbles(1, 0, -1)", x.bubbles(1, 0, -1), BAD);
        due(23, "bubbles(1, 0, 3)", x.bubbles(1, 0, 3), BAD);
        // lighter on the floor only: DEPTH 0 binds, 101 * 1000 by 293
        DiverBottle salt = bottle("salt 50 99;");
        due(23, "bubbles, salt below", salt.bubbles(100, 500, 1), 345);
        due(23, "bubbles, salt above HEAVY", bottle("salt 0 99;").bubbles(99, 500, 0), 0);
    }

    private static void atThumb() {
        DiverBottle x = new DiverBottle();
        x.thumb(99);
        due(24, "atThumb(100, 0, 0)", x.atThumb(100, 0, 0), 342);
        due(24, "atThumb(100, 0, 1)", x.atThumb(100, 0, 1), 0);
        due(24, "atThumb(100, 0, 2)", x.atThumb(100, 0, 2), 341);
        due(24, "atThumb(100, 40, 0)", x.atThumb(100, 40, 0), 0);
        due(24, "atThumb(100, 40, 1)", x.atThumb(100, 40, 1), NONE);
        due(24, "atThumb(100, 40, 2)", x.atThumb(100, 40, 2), NONE);
        due(24, "atThumb(100, 41, 0)", x.atThumb(100, 41, 0), 1);
        due(24, "atThumb(100, 41, 1)", x.atThumb(100, 41, 1), 355);
        due(24, "atThumb(100, 41, 2)", x.atThumb(100, 41, 2), 355);
        due(24, "atThumb(999, 500, 0)", x.atThumb(999, 500, 0), 4);
        due(24, "atThumb(999, 500, 1)", x.atThumb(999, 500, 1), 5111);
        due(24, "atThumb(999, 500, 2)", x.atThumb(999, 500, 2), 5114);
        due(24, "atThumb, salt above HEAVY", bottle("salt 0 99;").atThumb(99, 0, 0), 0);
        due(24, "atThumb(0, 0, 0)", x.atThumb(0, 0, 0), BAD);
        due(24, "atThumb(1000, 0, 0)", x.atThumb(1000, 0, 0), BAD);
        due(24, "atThumb(1, -1, 0)", x.atThumb(1, -1, 0), BAD);
        due(24, "atThumb(1, 501, 0)", x.atThumb(1, 501, 0), BAD);
        due(24, "atThumb(1, 0, -1)", x.atThumb(1, 0, -1), BAD);
        due(24, "atThumb(1, 0, 3)", x.atThumb(1, 0, 3), BAD);
    }

    private static void spread() {
        DiverBottle x = new DiverBottle();
        due(25, "spread(100, 2, 0)", x.spread(100, 2, 0), 384);
        due(25, "spread(100, 2, 1)", x.spread(100, 2, 1), 114);
        due(25, "spread(100, 3, 0)", x.spread(100, 3, 0), 191);
        due(25, "spread(100, 3, 1)", x.spread(100, 3, 1), 114);
        due(25, "spread(1, 6, 0)", x.spread(1, 6, 0), NONE);
        due(25, "spread(1, 6, 1)", x.spread(1, 6, 1), NONE);
        // heavy 5: 23, 24 and 25 come back and go at 348, 407 and 466; with 26 he never goes
        due(25, "spread(5, 3, 0)", x.spread(5, 3, 0), 59);
        due(25, "spread(5, 2, 0)", x.spread(5, 2, 0), 118);
        due(25, "spread(5, 2, 1)", x.spread(5, 2, 1), 348);
        due(25, "spread(5, 4, 0)", x.spread(5, 4, 0), NONE);
        DiverBottle wide = bottle("air 800;height 10;salt 10 99;");
        due(25, "spread from 1 to 500", wide.spread(999, 2, 0), 499);
        due(25, "spread from 1 to 500", wide.spread(999, 2, 1), 1);
        due(25, "spread of six from 1 to 500", wide.spread(999, 6, 0), 99);
        due(25, "spread(0, 2, 0)", x.spread(0, 2, 0), BAD);
        due(25, "spread(1000, 2, 0)", x.spread(1000, 2, 0), BAD);
        due(25, "spread(5, 1, 0)", x.spread(5, 1, 0), BAD);
        due(25, "spread(5, 7, 0)", x.spread(5, 7, 0), BAD);
        due(25, "spread(5, 2, -1)", x.spread(5, 2, -1), BAD);
        due(25, "spread(5, 2, 2)", x.spread(5, 2, 2), BAD);
    }

    private static void hold() {
        DiverBottle x = bottle("diver 10 0 leak 3 hook;ring 5;");
        x.thumb(33);
        int[] dry = {NONE, 3250, 50, 0};
        for (int i = 0; i < 4; i++) due(26, "hold(0, 50, 0, 0, 5, 3, " + i + ")", x.hold(0, 50, 0, 0, 5, 3, i), dry[i]);
        due(26, "hold, LATE 0", x.hold(0, 50, 100, 0, 5, 3, 3), 90);
        due(26, "hold, LATE 1", x.hold(0, 50, 100, 1, 5, 3, 3), 95);
        due(26, "hold, LATE 2", x.hold(0, 50, 100, 2, 5, 3, 3), 100);
        due(26, "hold, LATE 50", x.hold(0, 50, 100, 50, 5, 3, 3), 100);
        due(26, "hold, LATE 50", x.hold(0, 1, 500, 50, 1, 51, 3), 500);
        due(26, "hold, LATE 50", x.hold(0, 1, 500, 50, 1, 52, 3), 499);
        due(26, "hold, LATE 49", x.hold(0, 1, 500, 49, 1, 50, 3), 500);
        due(26, "hold, LATE 49", x.hold(0, 1, 500, 49, 1, 52, 3), 498);
        due(26, "hold, one TICK", x.hold(0, 50, 100, 0, 5, 1, 1), 3209);
        due(26, "hold till the floor", x.hold(0, 99, 100, 0, 5, 999, 0), 4);
        due(26, "hold till the floor", x.hold(0, 99, 100, 0, 5, 999, 1), 6400);
        due(26, "hold till the floor", x.hold(0, 99, 100, 0, 5, 999, 2), 64);
        due(26, "hold till the floor", x.hold(0, 99, 100, 0, 5, 999, 3), 85);
        due(26, "hold, n TICKS, one too few", x.hold(0, 99, 100, 0, 5, 3, 0), NONE);
        due(26, "all stays", x.diver(0, 7) + x.diver(0, 8) + x.now(0), 0);
        due(26, "all stays", x.now(1), 33);
        due(26, "all stays", x.now(4), 1);
        due(26, "all stays", x.diver(0, 5), 0);
        DiverBottle up = bottle("drag 2;diver 1 441;");
        // 64 up in the first TICK; the hand then turns, but not in time
        due(26, "hold till the top", up.hold(0, 1, 0, 0, 50, 9, 0), 1);
        due(26, "hold till the top", up.hold(0, 1, 0, 0, 50, 9, 1), 0);
        due(26, "hold, less deep", up.hold(0, 90, 480, 0, 50, 2, 3), 500);
        due(26, "hold of the last DEPTH", x.hold(0, 1, 0, 0, 5, 1, 1), 73);
    }

    private static void holdWrong() {
        DiverBottle x = bottle("diver 10 0;");
        int[][] wrongs = {{1, 50, 0, 0, 5, 3, 0}, {-1, 50, 0, 0, 5, 3, 0}, {0, 0, 0, 0, 5, 3, 0}, {0, 100, 0, 0, 5, 3, 0},
            {0, 50, -1, 0, 5, 3, 0}, {0, 50, 501, 0, 5, 3, 0}, {0, 50, 0, -1, 5, 3, 0}, {0, 50, 0, 51, 5, 3, 0},
            {0, 50, 0, 0, 0, 3, 0}, {0, 50, 0, 0, 51, 3, 0}, {0, 50, 0, 0, 5, 0, 0}, {0, 50, 0, 0, 5, 1000, 0},
            {0, 50, 0, 0, 5, 3, -1}, {0, 50, 0, 0, 5, 3, 4}};
        for (int[] w : wrongs) {
            String call = "(" + w[0] + ", " + w[1] + ", " + w[2] + ", " + w[3] + ", " + w[4] + ", " + w[5] + ", " + w[6] + ")";
            due(26, "hold" + call, x.hold(w[0], w[1], w[2], w[3], w[4], w[5], w[6]), BAD);
            boolean badLate = w[3] != 0, badStep = w[4] != 5, badWhat = w[6] != 0;
            if (!badLate && !badWhat) due(27, "late" + call, x.late(w[0], w[1], w[2], w[4], w[5]), BAD);
            if (!badStep) due(28, "step" + call, x.step(w[0], w[1], w[2], w[3], w[5], w[6]), BAD);
        }
        due(28, "step, what 2", x.step(0, 50, 0, 0, 3, 2), BAD);
    }

    private static void late() {
        DiverBottle x = bottle("diver 10 0;diver 140 497;");
        due(27, "late(0, 99, 0, 5, 3)", x.late(0, 99, 0, 5, 3), 50);
        due(27, "late(0, 99, 0, 5, 4)", x.late(0, 99, 0, 5, 4), NONE);
        int between = 0;
        for (int step = 1; step <= 50; step += 7) {
            for (int n = 40; n <= 999; n += 320) {
                int late = x.late(1, 20, 5, step, n);
                if (late > 0 && late < 50) between++;
                for (int l = 0; l <= late; l++) due(27, "held", x.hold(1, 20, 5, l, step, n, 0), NONE);
                if (late == NONE) late = -1;
                if (late < 50) due(27, "lost", x.hold(1, 20, 5, late + 1, step, n, 0) > 0 ? 1 : 0, 1);
            }
        }
        due(27, "some LATE between", between > 0 ? 1 : 0, 1);
    }

    private static void step() {
        DiverBottle x = bottle("diver 10 0;diver 140 500;");
        due(28, "step, LOST by all at once", x.step(0, 99, 0, 0, 9, 0), 1);
        due(28, "step, LOST by all at once", x.step(0, 99, 0, 0, 9, 1), 4);
        due(28, "step, not LOST", x.step(0, 99, 0, 0, 3, 0), 1);
        due(28, "step, not LOST", x.step(0, 99, 0, 0, 3, 1), NONE);
        boolean lost = false, held = false;
        for (int late = 0; late <= 50; late += 5) {
            for (int depth = 10; depth <= 90; depth += 20) {
                int best = bestStep(x, 1, depth, 9, late);
                int ticks = x.step(1, depth, 9, late, 400, 1);
                lost |= best > 1 && ticks != NONE;
                held |= best > 1 && ticks == NONE;
            }
        }
        due(28, "a better STEP than 1, LOST and not", (lost ? 1 : 0) + (held ? 2 : 0), 3);
        due(28, "the last STEP is best", bestStep(bottle("drag 64;diver 300 1065;"), 0, 20, 0, 1), 50);
    }

    /** Holds by each STEP tell which is the best one, and step() the same. */
    private static int bestStep(DiverBottle x, int k, int depth, int thumb, int late) {
        int best = 1, ticks = x.hold(k, depth, thumb, late, 1, 400, 0);
        for (int s = 2; s <= 50; s++) {
            int t = x.hold(k, depth, thumb, late, s, 400, 0);
            if (ticks == NONE || (t != NONE && t <= ticks)) continue;
            best = s;
            ticks = t;
        }
        due(28, "step what 0", x.step(k, depth, thumb, late, 400, 0), best);
        due(28, "step what 1", x.step(k, depth, thumb, late, 400, 1), ticks);
        return best;
    }

    private static void hours() {
        DiverBottle x = bottle("warm 300;hour 2 250;hour 5 350;diver 100 340;diver 5 0;diver 1 9999;");
        x.thumb(500);
        x.warm(250);
        due(29, "hours(0, 0)", x.hours(0, 0), 28);
        due(29, "hours(0, 1)", x.hours(0, 1), 2);
        due(29, "hours(1, 0)", x.hours(1, 0), (1 << 24) - 1);
        due(29, "hours(1, 1)", x.hours(1, 1), 1);
        due(29, "hours(2, 0)", x.hours(2, 0), 0);
        due(29, "hours(2, 1)", x.hours(2, 1), 0);
        due(29, "hours(3, 0)", x.hours(3, 0), BAD);
        due(29, "hours(-1, 0)", x.hours(-1, 0), BAD);
        due(29, "hours(0, -1)", x.hours(0, -1), BAD);
        due(29, "hours(0, 2)", x.hours(0, 2), BAD);
        // heavy above, light on the floor: one way each HOUR
        DiverBottle salt = bottle("salt 50 99;diver 50 0;");
        due(29, "hours, salt", salt.hours(0, 0), 0x555555);
        due(29, "hours, salt", salt.hours(0, 1), 24);
        // WEIGHT 0 at the top and on the floor: he stays
        due(29, "hours, WEIGHT 0", bottle("diver 100 342;").hours(0, 1), 0);
        due(29, "hours, WEIGHT 0 on the floor", bottle("hour 0 250;diver 100 376;").hours(0, 0), 0xFFFFFF);
        due(29, "hours, WEIGHT -1 on the floor", bottle("hour 0 250;diver 200 755;").hours(0, 0), 1);
    }

    private static void trips() {
        DiverBottle x = bottle("diver 140 600 leak 10;diver 140 530;diver 140 529;diver 140 535 leak 9;diver 1 9999 leak 1;");
        x.thumb(500);
        due(30, "trips(0)", x.trips(0), 7);
        due(30, "trips(1)", x.trips(1), 999);
        due(30, "trips(2)", x.trips(2), 0);
        due(30, "trips(3)", x.trips(3), 0);
        due(30, "trips(4)", x.trips(4), 999);
        due(30, "trips(5)", x.trips(5), BAD);
        due(30, "trips(-1)", x.trips(-1), BAD);
        due(30, "nothing is taken", x.diver(0, 1), 600);
        DiverBottle loaded = bottle("height 10;ring 3;diver 100 360 hook;");
        due(30, "trips without a LOAD", loaded.trips(0), 999);
        loaded.thumb(500);
        loaded.go(60);
        due(30, "LOAD", loaded.diver(0, 5), 3);
        // 103 less 104 is below 0, with LEAK 0
        due(30, "trips with a LOAD", loaded.trips(0), 999);
        DiverBottle heavier = bottle("height 10;ring 4;diver 100 360 hook;");
        heavier.thumb(500);
        heavier.go(60);
        due(30, "trips with a LOAD", heavier.trips(0), 0);
        // his BUBBLE is never below 0: light in the salt without any
        due(30, "trips, BUBBLE 0", bottle("salt 50 99;diver 50 5 leak 9;").trips(0), 999);
    }

    private static void bladder() {
        DiverBottle x = bottle("diver 140 0 rate 5;diver 140 0;diver 140 0 rate 48;diver 140 0 rate 47;");
        x.thumb(500);
        due(31, "bladder(0, 0, 100, 0)", x.bladder(0, 0, 100, 0), 10);
        due(31, "bladder(0, 100, 0, 0)", x.bladder(0, 100, 0, 0), 10);
        due(31, "bladder(0, 0, 100, 1)", x.bladder(0, 0, 100, 1), 526);
        due(31, "bladder(0, 100, 0, 1)", x.bladder(0, 100, 0, 1), 478);
        due(31, "bladder(0, 7, 7, 0)", x.bladder(0, 7, 7, 0), 0);
        due(31, "bladder(1, 0, 100, 0)", x.bladder(1, 0, 100, 0), NONE);
        due(31, "bladder(1, 0, 100, 1)", x.bladder(1, 0, 100, 1), 526);
        due(31, "bladder(1, 7, 7, 0)", x.bladder(1, 7, 7, 0), 0);
        due(31, "bladder, the same BUBBLE", x.bladder(1, 1, 2, 0), 0);
        due(31, "bladder(2, 0, 100, 0)", x.bladder(2, 0, 100, 0), 1);
        due(31, "bladder(3, 0, 100, 0)", x.bladder(3, 0, 100, 0), 2);
        due(31, "bladder(4, 0, 0, 0)", x.bladder(4, 0, 0, 0), BAD);
        due(31, "bladder(-1, 0, 0, 0)", x.bladder(-1, 0, 0, 0), BAD);
        due(31, "bladder(0, -1, 0, 0)", x.bladder(0, -1, 0, 0), BAD);
        due(31, "bladder(0, 101, 0, 0)", x.bladder(0, 101, 0, 0), BAD);
        due(31, "bladder(0, 0, -1, 0)", x.bladder(0, 0, -1, 0), BAD);
        due(31, "bladder(0, 0, 101, 0)", x.bladder(0, 0, 101, 0), BAD);
        due(31, "bladder(0, 0, 0, -1)", x.bladder(0, 0, 0, -1), BAD);
        due(31, "bladder(0, 0, 0, 2)", x.bladder(0, 0, 0, 2), BAD);
        due(31, "bladder, salt", bottle("salt 9 99;diver 50 0 rate 1;").bladder(0, 0, 9, 1), 0);
        DiverBottle loaded = bottle("air 1200;height 200;warm 250;ring 999;diver 999 0 hook rate 1;");
        loaded.go(999);
        due(31, "LOAD", loaded.diver(0, 5), 999);
        due(31, "bladder with a LOAD", loaded.bladder(0, 0, 0, 1), 9591);
        due(31, "bladder, no BUBBLE is enough", loaded.bladder(0, 0, 200, 1), NONE);
        due(31, "bladder, no BUBBLE is enough", loaded.bladder(0, 0, 200, 0), NONE);
        DiverBottle most = bottle("air 1200;warm 250;ring 963;diver 999 0 hook;");
        most.go(999);
        due(31, "bladder 9999", most.bladder(0, 74, 74, 1), 9999);
        due(31, "bladder above 9999", most.bladder(0, 74, 75, 1), NONE);
    }

    private static void beats() {
        DiverBottle x = bottle("diver 140 500;");
        x.thumb(500);
        due(32, "beats(0, 470, 7, 0)", x.beats(0, 470, 7, 0), 11);
        due(32, "beats(0, 470, 7, 1)", x.beats(0, 470, 7, 1), 533);
        due(32, "beats(0, 470, 60, 0)", x.beats(0, 470, 60, 0), 3);
        due(32, "beats(0, 470, 60, 1)", x.beats(0, 470, 60, 1), 530);
        due(32, "beats(0, 470, 59, 0)", x.beats(0, 470, 59, 0), 4);
        due(32, "beats(0, 0, 1, 0)", x.beats(0, 0, 1, 0), 532);
        due(32, "beats(0, 477, 99, 1)", x.beats(0, 477, 99, 1), 576);
        due(32, "beats(0, 478, 99, 1): WEIGHT 0", x.beats(0, 478, 99, 1), NONE);
        due(32, "beats(0, 9999, 99, 0)", x.beats(0, 9999, 99, 0), NONE);
        due(32, "beats(1, 0, 1, 0)", x.beats(1, 0, 1, 0), BAD);
        due(32, "beats(-1, 0, 1, 0)", x.beats(-1, 0, 1, 0), BAD);
        due(32, "beats(0, -1, 1, 0)", x.beats(0, -1, 1, 0), BAD);
        due(32, "beats(0, 10000, 1, 0)", x.beats(0, 10000, 1, 0), BAD);
        due(32, "beats(0, 0, 0, 0)", x.beats(0, 0, 0, 0), BAD);
        due(32, "beats(0, 0, 100, 0)", x.beats(0, 0, 100, 0), BAD);
        due(32, "beats(0, 0, 1, -1)", x.beats(0, 0, 1, -1), BAD);
        due(32, "beats(0, 0, 1, 2)", x.beats(0, 0, 1, 2), BAD);
        DiverBottle salt = bottle("salt 50 99;diver 50 0;");
        due(32, "beats, light on the floor", salt.beats(0, 3, 1, 0), 2);
        due(32, "beats, light on the floor", salt.beats(0, 3, 1, 1), 3);
        DiverBottle loaded = bottle(FETCHER);
        int bare = loaded.beats(0, 300, 5, 1);
        loaded.thumb(500);
        loaded.go(60);
        due(32, "beats without LOAD", loaded.beats(0, 300, 5, 1), bare);
    }

    private static void saw() {
        DiverBottle x = bottle("height 10;");
        for (int i = 1; i <= 12; i++) due(33, "saw", x.saw(500, 10, false), i);
        due(33, "saw, the 13th", x.saw(0, 0, true), FULL);
        due(33, "saw(501, 0)", x.saw(501, 0, true), BAD);
        due(33, "saw(-1, 0)", x.saw(-1, 0, true), BAD);
        due(33, "saw(0, 11)", x.saw(0, 11, true), BAD);
        due(33, "saw(0, -1)", x.saw(0, -1, true), BAD);
        due(33, "count(2)", x.count(2), 12);
        due(34, "forget()", x.forget(), 12);
        due(34, "count(2)", x.count(2), 0);
        due(34, "forget()", x.forget(), 0);
        due(34, "saw", x.saw(0, 0, true), 1);
    }

    private static void fits() {
        DiverBottle x = new DiverBottle();
        due(35, "fits(100, 0)", x.fits(100, 0), 10000);
        due(35, "fits(100, 1)", x.fits(100, 1), 0);
        due(35, "fits(100, 2)", x.fits(100, 2), 9999);
        x.saw(0, 0, true);
        due(35, "fits(100, 0)", x.fits(100, 0), 342);
        due(35, "fits(100, 2)", x.fits(100, 2), 341);
        x.warm(250);
        due(35, "fits(100, 2), by warm as it is", x.fits(100, 2), 399);
        x.warm(293);
        x.saw(0, 0, false);
        due(35, "fits(100, 0)", x.fits(100, 0), 0);
        due(35, "fits(100, 1)", x.fits(100, 1), NONE);
        due(35, "fits(100, 2)", x.fits(100, 2), NONE);
        x.forget();
        x.saw(500, 100, false);
        due(35, "fits(100, 1)", x.fits(100, 1), 547);
        due(35, "fits(100, 0)", x.fits(100, 0), 10000 - 547);
        due(35, "fits(0, 0)", x.fits(0, 0), BAD);
        due(35, "fits(1000, 0)", x.fits(1000, 0), BAD);
        due(35, "fits(1, -1)", x.fits(1, -1), BAD);
        due(35, "fits(1, 3)", x.fits(1, 3), BAD);
        DiverBottle salt = bottle("salt 50 99;");
        salt.saw(0, 50, true);
        due(35, "fits(99, 0), salt", salt.fits(99, 0), 0);
        due(35, "fits(100, 2), salt", salt.fits(100, 2), 3);
    }

    private static void who() {
        DiverBottle x = bottle("diver 140 500;diver 140 490;diver 140 479;");
        due(36, "who()", x.who(), 7);
        x.saw(30, 0, true);
        due(36, "who()", x.who(), 6);
        x.saw(20, 0, false);
        due(36, "who()", x.who(), 2);
        x.warm(250);
        due(36, "who()", x.who(), 0);
        DiverBottle loaded = bottle(FETCHER);
        // 105480 by 1050 is 100: just 0 without LOAD
        loaded.saw(50, 0, true);
        due(36, "who()", loaded.who(), 0);
        loaded.thumb(500);
        loaded.go(60);
        due(36, "who(), LOAD as now", loaded.who(), 1);
    }

    private static void images() {
        DiverBottle x = bottle(FETCHER + "diver 5 9 leak 2;");
        due(37, "keep(-1)", x.keep(-1), BAD);
        due(37, "keep(2)", x.keep(2), BAD);
        due(38, "restore(-1)", x.restore(-1), BAD);
        due(38, "restore(2)", x.restore(2), BAD);
        due(38, "restore(1)", x.restore(1), STATE);
        x.thumb(500);
        x.warm(300);
        x.go(7);
        x.saw(3, 4, true);
        due(37, "keep(1)", x.keep(1), 0);
        due(38, "restore(0)", x.restore(0), STATE);
        int[] then = new int[PARTS];
        for (int i = 0; i < PARTS; i++) then[i] = part(x, i);
        x.go(200);
        x.thumb(0);
        x.go(300);
        x.warm(260);
        x.saw(5, 6, false);
        x.saw(7, 8, false);
        due(37, "keep(0)", x.keep(0), 0);
        due(37, "keep(0)", x.keep(0), 1);
        due(37, "now(5)", x.now(5), 1);
        due(38, "restore(1)", x.restore(1), 7);
        for (int i = 0; i < PARTS; i++) due(38, "part " + i, part(x, i), then[i]);
        due(38, "who()", x.count(2), 1);
        x.go(1);
        x.saw(1, 1, true);
        due(38, "restore(1) once more", x.restore(1), 7);
        for (int i = 0; i < PARTS; i++) due(38, "part " + i, part(x, i), then[i]);
        due(38, "restore(0)", x.restore(0), 507);
        due(38, "rule(2)", x.rule(2), 260);
        due(38, "now(5)", x.now(5), 1);
        due(38, "count(2)", x.count(2), 3);
        due(38, "count(3)", x.count(3), 2);
    }

    /** All that an IMAGE keeps, as it can be asked. */
    private static int part(DiverBottle x, int i) {
        if (i < 6) return x.now(i);
        if (i < 16) return x.diver(0, i - 6);
        if (i < 26) return x.diver(1, i - 16);
        if (i < 33) return x.rule(i - 26);
        if (i < 36) return x.fits(100, i - 33);
        return x.count(i - 36);
    }

    private static void sheets() {
        DiverBottle x = new DiverBottle();
        due(39, "sheet(4, 0, 1)", x.sheet(4, 0, 1), BAD);
        due(39, "sheet(-1, 0, 1)", x.sheet(-1, 0, 1), BAD);
        due(39, "sheet(0, 3, 1)", x.sheet(0, 3, 1), BAD);
        due(39, "sheet(0, -1, 1)", x.sheet(0, -1, 1), BAD);
        due(39, "sheet(0, 0, 41)", x.sheet(0, 0, 41), BAD);
        due(39, "sheet(0, 0, MAX)", x.sheet(0, 0, MAX), BAD);
        due(39, "sheet(0, 0, -1)", x.sheet(0, 0, -1), -14);
        due(39, "sheet(0, 0, MIN)", x.sheet(0, 0, MIN), -14);
        due(39, "sheet(4, 0, -1)", x.sheet(4, 0, -1), BAD);
        due(39, "count(5)", x.count(5), NONE);
        due(39, "sheet(0, 0, 0)", x.sheet(0, 0, 0), 1);
        due(39, "count(5)", x.count(5), 0);
        due(40, "lay(0, 0, 1)", x.lay(0, 0, 1), -12);
        due(39, "sheet(0, 2, 40)", x.sheet(0, 2, 40), 1);
        due(39, "count(5)", x.count(5), 40);
        due(40, "lay(0, 39, 1)", x.lay(0, 39, 1), 1);
        due(40, "lay(0, 40, 1)", x.lay(0, 40, 1), -12);
        due(40, "lay(0, -1, 1)", x.lay(0, -1, 1), -12);
        due(40, "lay(0, MIN, 1)", x.lay(0, MIN, 1), -12);
        due(40, "lay(3, 0, 1)", x.lay(3, 0, 1), -11);
        due(40, "lay(3, -1, 1)", x.lay(3, -1, 1), -11);
        due(40, "lay(4, 0, 1)", x.lay(4, 0, 1), BAD);
        due(40, "lay(-1, 0, 1)", x.lay(-1, 0, 1), BAD);
        x.lay(0, 0, 9);
        x.lay(0, 2, 1);
        due(39, "sheet(0, 2, -5) changes nothing", x.sheet(0, 2, -5), -14);
        due(41, "read(0, 2, 0, 1)", x.read(0, 2, 0, 1), 1);
        due(39, "sheet(0, 2, 40) is new", x.sheet(0, 2, 40), 1);
        x.lay(0, 2, 1);
        x.forget();
        due(41, "read(0, 2, 0, 1)", x.read(0, 2, 0, 1), 1);
        due(39, "CELL 0 is 0 again", x.fits(100, 2), 341);
        lowestBits(0, 256 + 5, 5, -1);
        lowestBits(0, 200, -1, -20);
        lowestBits(1, 65536 + 300, 300, -1);
        lowestBits(1, 40000, -1, -20);
        lowestBits(2, 65536 + 300, -1, -20);
        lowestBits(2, 300, 300, -1);
    }

    /** A THUMB is laid and read: it sinks what that THUMB sinks, or is refused. */
    private static void lowestBits(int lane, int v, int thumb, int refused) {
        DiverBottle x = new DiverBottle(), y = new DiverBottle();
        x.sheet(1, lane, 3);
        x.lay(1, 0, v);
        x.lay(1, 2, 1);
        due(40, "read of lane " + lane + ", " + v, x.read(1, lane, 0, 1), refused == -1 ? 1 : refused);
        if (thumb >= 0) y.saw(thumb, 0, true);
        due(40, "fits of lane " + lane + ", " + v, x.fits(100, 2), y.fits(100, 2));
    }

    private static void layAll(DiverBottle x, int k, int... cells) {
        for (int i = 0; i < cells.length; i++) x.lay(k, i, cells[i]);
    }

    private static void read() {
        DiverBottle x = bottle("height 50;");
        x.sheet(0, 1, 11);
        layAll(x, 0, 500, 50, 1, 0, 0, 0, 10, 20, 1, 7, 7);
        due(41, "read(0, 1, 0, 0)", x.read(0, 1, 0, 0), 0);
        due(42, "torn()", x.torn(), 0);
        due(41, "read(0, 1, 0, 2)", x.read(0, 1, 0, 2), 2);
        due(42, "torn()", x.torn(), 0);
        due(41, "read(0, 1, 6, 2): the row ends", x.read(0, 1, 6, 2), 1);
        due(42, "torn()", x.torn(), 2);
        due(41, "count(2)", x.count(2), 3);
        DiverBottle same = bottle("height 50;");
        same.saw(500, 50, true);
        same.saw(0, 0, false);
        same.saw(10, 20, true);
        for (int heavy = 1; heavy <= 999; heavy += 499) {
            for (int what = 0; what < 3; what++) due(41, "fits", x.fits(heavy, what), same.fits(heavy, what));
        }
        for (int f : new int[] {-1, -3, 9, 11, 12, MAX, MAX - 1, MAX - 2, MIN}) {
            due(41, "read(0, 1, " + f + ", 3)", x.read(0, 1, f, 3), 0);
            due(42, "torn()", x.torn(), 2);
            x.read(0, 1, 0, 0);
        }
        due(41, "read(0, 0, 0, 1): another lane", x.read(0, 0, 0, 1), 0);
        due(42, "torn()", x.torn(), 3);
        due(41, "read(0, 2, -9, 1): another lane first", x.read(0, 2, -9, 1), 0);
        due(42, "torn()", x.torn(), 3);
        due(41, "read(2, 2, -9, 1): nothing", x.read(2, 2, -9, 1), 0);
        due(42, "torn()", x.torn(), 1);
        due(41, "count(2)", x.count(2), 3);
        due(41, "read(0, 1, 0, 1)", x.read(0, 1, 0, 1), 1);
        due(42, "torn()", x.torn(), 0);
    }

    private static void readRefused() {
        DiverBottle x = bottle("height 50;");
        x.read(3, 0, 0, 1);
        due(42, "torn()", x.torn(), 1);
        for (int[] w : new int[][] {{-1, 0, 0, 1}, {4, 0, 0, 1}, {0, -1, 0, 1}, {0, 3, 0, 1}, {0, 0, 0, -1}, {0, 0, 0, 13}}) {
            due(41, "read(" + w[0] + ", " + w[1] + ", 0, " + w[3] + ")", x.read(w[0], w[1], w[2], w[3]), BAD);
        }
        x.sheet(0, 2, 40);
        int[][] odd = {{501, 0, 0}, {-1, 0, 0}, {0, 51, 0}, {0, -1, 0}, {0, 0, 2}, {0, 0, -1}};
        for (int[] o : odd) {
            for (int i = 0; i < 3; i++) x.lay(0, 6 + i, o[i]);
            due(41, "read, the third is not as told", x.read(0, 2, 0, 12), -22);
            due(41, "read, the first is not as told", x.read(0, 2, 6, 12), -20);
            due(41, "count(2)", x.count(2), 0);
        }
        due(42, "torn() of the latest that came to an end", x.torn(), 1);
        for (int i = 0; i < 11; i++) x.saw(0, 0, true);
        due(41, "FULL ahead of what is not as told", x.read(0, 2, 0, 3), FULL);
        due(41, "what is not as told ahead of FULL", x.read(0, 2, 3, 2), -21);
        due(41, "count(2)", x.count(2), 11);
        due(41, "read(0, 2, 0, 1)", x.read(0, 2, 0, 1), 1);
        due(41, "read(0, 2, 0, 1)", x.read(0, 2, 0, 1), FULL);
        due(41, "read(0, 2, 0, 0)", x.read(0, 2, 0, 0), 0);
        due(41, "read(0, 2, 6, 1)", x.read(0, 2, 6, 1), -20);
        due(41, "read(0, 2, 39, 1)", x.read(0, 2, 39, 1), 0);
        due(42, "torn()", x.torn(), 2);
        x.forget();
        x.lay(0, 8, 0);
        due(41, "read(0, 2, 0, 12)", x.read(0, 2, 0, 12), 12);
        due(42, "torn()", x.torn(), 0);
    }

    private static void count() {
        DiverBottle x = bottle("diver 1 1 hook;diver 1 1;diver 1 1 hook;");
        due(43, "count(0)", x.count(0), 3);
        due(43, "count(1)", x.count(1), 2);
        x.saw(0, 0, true);
        due(43, "count(2)", x.count(2), 1);
        x.keep(1);
        due(43, "count(3)", x.count(3), 1);
        x.keep(0);
        x.keep(0);
        due(43, "count(3)", x.count(3), 2);
        x.feed(0L);
        due(43, "count(4)", x.count(4), 8);
        x.sheet(1, 0, 5);
        due(43, "count(5)", x.count(5), NONE);
        x.sheet(0, 0, 5);
        due(43, "count(5)", x.count(5), 5);
        for (int what : new int[] {-1, 6, MAX, MIN}) due(43, "count(" + what + ")", x.count(what), BAD);
    }

    /** As many as there can be: what goes over them goes over no more. */
    private static void sixDivers() {
        DiverBottle x = bottle("height 10;drag 2;ring 7;" + "diver 128 0 hook;".repeat(6));
        due(10, "go(99)", x.go(99), 63);
        due(12, "now(3)", x.now(3), 63);
        due(13, "drop()", x.drop(), 1);
        due(20, "order(5)", x.order(5), 5);
        due(20, "order(6)", x.order(6), BAD);
        due(21, "apart()", x.apart(), 0);
        due(36, "who()", x.who(), 63);
        due(37, "keep(0)", x.keep(0), 0);
        due(38, "restore(0)", x.restore(0), 99);
        due(43, "count(0)", x.count(0), 6);
        due(43, "count(1)", x.count(1), 6);
        due(7, "diver(5, 0)", x.diver(5, 0), 128);
        due(7, "diver(6, 0)", x.diver(6, 0), NO_WEIGHT);
        due(11, "set(5, 0)", x.set(5, 0), 10);
        due(11, "set(6, 0)", x.set(6, 0), BAD);
    }
}
