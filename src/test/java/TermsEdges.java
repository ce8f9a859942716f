import java.util.function.IntUnaryOperator;

/** 'Terms': the answers, dividing, RULES, DEPTHS, a DIVER. */
final class TermsEdges {
    private static final int BAD = Check.BAD, STATE = Check.STATE, FULL = Check.FULL, NONE = Check.NONE;
    private static final int NO_WEIGHT = Check.NO_WEIGHT;
    private static final String TWO = "diver 100 342;diver 9 0;";

    private TermsEdges() {
    }

    private static void due(String call, long got, long want) {
        Check.due(call, got, want);
    }

    private static void bounds(String call, IntUnaryOperator ask, int least, int most, int refused) {
        Check.bounds(call, ask, least, most, refused);
    }

    private static DiverBottle bottle(String text) {
        return Check.bottle(text);
    }

    // ---- answers

    @Holds(says = "Answers: BAD -1 (a number is not as told,")
    static void aNumberThatIsNotAsTold() {
        DiverBottle x = bottle(TWO);
        due("BAD", DiverBottle.BAD, -1);
        due("end(1)", x.end(1), BAD);
        due("rule(7)", x.rule(7), BAD);
        due("thumb(501)", x.thumb(501), BAD);
        due("go(0)", x.go(0), BAD);
        due("order(2)", x.order(2), BAD);
        due("fits(0, 0)", x.fits(0, 0), BAD);
        due("count(6)", x.count(6), BAD);
    }

    @Holds(says = "there is no such DIVER, DEPTH, IMAGE, SHEET)")
    static void noSuchDiver() {
        DiverBottle x = bottle(TWO);
        bounds("diver(k, 0)", k -> x.diver(k, 0), 0, 1, NO_WEIGHT);
        bounds("set(k, 5)", k -> x.set(k, 5), 0, 1, BAD);
        bounds("weighs(k, 0, 0)", k -> x.weighs(k, 0, 0), 0, 1, NO_WEIGHT);
        bounds("turning(k, 0)", k -> x.turning(k, 0), 0, 1, BAD);
        bounds("holding(k, 0)", k -> x.holding(k, 0), 0, 1, BAD);
        bounds("back(k)", k -> x.back(k), 0, 1, BAD);
        bounds("goesAt(k)", k -> x.goesAt(k), 0, 1, BAD);
        bounds("lifts(k)", k -> x.lifts(k), 0, 1, BAD);
        bounds("hold(k, 5, 0, 0, 1, 1, 0)", k -> x.hold(k, 5, 0, 0, 1, 1, 0), 0, 1, BAD);
        bounds("late(k, 5, 0, 1, 1)", k -> x.late(k, 5, 0, 1, 1), 0, 1, BAD);
        bounds("step(k, 5, 0, 0, 1, 0)", k -> x.step(k, 5, 0, 0, 1, 0), 0, 1, BAD);
        bounds("hours(k, 0)", k -> x.hours(k, 0), 0, 1, BAD);
        bounds("trips(k)", k -> x.trips(k), 0, 1, BAD);
        bounds("bladder(k, 0, 0, 0)", k -> x.bladder(k, 0, 0, 0), 0, 1, BAD);
        bounds("beats(k, 0, 1, 0)", k -> x.beats(k, 0, 1, 0), 0, 1, BAD);
    }

    @Holds(says = "there is no such DIVER, DEPTH, IMAGE, SHEET)")
    static void noSuchDiverWhenThereIsNone() {
        DiverBottle x = new DiverBottle();
        due("diver(0, 0)", x.diver(0, 0), NO_WEIGHT);
        due("set(0, 0)", x.set(0, 0), BAD);
        due("back(0)", x.back(0), BAD);
        due("goesAt(0)", x.goesAt(0), BAD);
        due("lifts(0)", x.lifts(0), BAD);
        due("trips(0)", x.trips(0), BAD);
        due("hours(0, 0)", x.hours(0, 0), BAD);
        due("bladder(0, 0, 0, 0)", x.bladder(0, 0, 0, 0), BAD);
        due("beats(0, 0, 1, 0)", x.beats(0, 0, 1, 0), BAD);
    }

    @Holds(says = "there is no such DIVER, DEPTH, IMAGE, SHEET)")
    static void noSuchDiverBehindATextWithFewer() {
        DiverBottle x = bottle(TWO);
        Check.tell(x, "diver 140 500;");
        due("diver(0, 0)", x.diver(0, 0), 140);
        due("diver(1, 0)", x.diver(1, 0), NO_WEIGHT);
        due("trips(1)", x.trips(1), BAD);
        due("order(0)", x.order(0), 0);
        due("order(1)", x.order(1), BAD);
        due("apart()", x.apart(), NONE);
        due("who()", x.who(), 1);
        // nor does he who was there take THE RING
        DiverBottle hooks = bottle("diver 1 0;diver 999 0 hook;");
        Check.tell(hooks, "ring 5;height 10;diver 1 9999;");
        due("go(999)", hooks.go(999), 0);
        due("now(4)", hooks.now(4), 1);
        due("count(1)", hooks.count(1), 0);
    }

    @Holds(says = "there is no such DIVER, DEPTH, IMAGE, SHEET)")
    static void noSuchImage() {
        DiverBottle x = new DiverBottle();
        bounds("keep(i)", i -> x.keep(i), 0, 1, BAD);
        bounds("restore(i)", i -> x.restore(i), 0, 1, BAD);
    }

    @Holds(says = "there is no such DIVER, DEPTH, IMAGE, SHEET)")
    static void noSuchSheet() {
        DiverBottle x = new DiverBottle();
        bounds("sheet(k, 0, 3)", k -> x.sheet(k, 0, 3), 0, 3, BAD);
        bounds("lay(k, 0, 0)", k -> x.lay(k, 0, 0), 0, 3, BAD);
        bounds("read(k, 0, 0, 1)", k -> x.read(k, 0, 0, 1), 0, 3, BAD);
    }

    @Holds(says = "STATE -2 (as told)")
    static void stateIsTheImageThatIsNot() {
        DiverBottle x = new DiverBottle();
        due("STATE", DiverBottle.STATE, -2);
        x.keep(0);
        due("restore(1)", x.restore(1), STATE);
        due("restore(0)", x.restore(0), 0);
    }

    @Holds(says = "FULL -3")
    static void fullIsTheTapeOrTheSeen() {
        DiverBottle x = new DiverBottle();
        due("FULL", DiverBottle.FULL, -3);
        for (int i = 0; i < 40; i++) x.feed(0L);
        due("feed(0)", x.feed(0L), FULL);
        for (int i = 0; i < 12; i++) x.saw(0, 0, true);
        due("saw(0, 0, true)", x.saw(0, 0, true), FULL);
    }

    @Holds(says = "NONE -4 (there is none)")
    static void noneIsWhereThereIsNone() {
        DiverBottle x = bottle("diver 1 9999;");
        due("NONE", DiverBottle.NONE, -4);
        due("turning(0, 500)", x.turning(0, 500), NONE);
        due("goesAt(0)", x.goesAt(0), NONE);
        due("apart()", x.apart(), NONE);
        due("count(5)", x.count(5), NONE);
    }

    @Holds(says = "the first that fits;")
    static void badComesAheadOfState() {
        DiverBottle x = new DiverBottle();
        due("restore(2)", x.restore(2), BAD);
        due("restore(-1)", x.restore(-1), BAD);
    }

    @Holds(says = "the first that fits;")
    static void badComesAheadOfFull() {
        DiverBottle x = new DiverBottle();
        for (int i = 0; i < 12; i++) x.saw(0, 0, true);
        x.sheet(0, 0, 3);
        due("saw(501, 0, true)", x.saw(501, 0, true), BAD);
        due("saw(0, 101, true)", x.saw(0, 101, true), BAD);
        due("read(0, 0, 0, 13)", x.read(0, 0, 0, 13), BAD);
        due("read(0, 3, 0, 1)", x.read(0, 3, 0, 1), BAD);
        due("read(4, 0, 0, 1)", x.read(4, 0, 0, 1), BAD);
    }

    @Holds(says = "the first that fits;")
    static void badComesAheadOfNone() {
        DiverBottle x = bottle("diver 1 9999;diver 10 0;");
        due("turning(0, 501)", x.turning(0, 501), BAD);
        due("holding(0, 501)", x.holding(0, 501), BAD);
        due("bubbles(1, 501, 1)", x.bubbles(1, 501, 1), BAD);
        due("bubbles(1, 0, 3)", x.bubbles(1, 0, 3), BAD);
        due("atThumb(1, 501, 1)", x.atThumb(1, 501, 1), BAD);
        due("spread(1, 7, 0)", x.spread(1, 7, 0), BAD);
        due("spread(1, 6, 2)", x.spread(1, 6, 2), BAD);
        due("hold(1, 50, 0, 0, 51, 1, 0)", x.hold(1, 50, 0, 0, 51, 1, 0), BAD);
        due("late(1, 99, 0, 51, 9)", x.late(1, 99, 0, 51, 9), BAD);
        due("step(1, 50, 0, 51, 1, 1)", x.step(1, 50, 0, 51, 1, 1), BAD);
        due("bladder(1, 0, 101, 0)", x.bladder(1, 0, 101, 0), BAD);
        due("beats(0, 9999, 100, 0)", x.beats(0, 9999, 100, 0), BAD);
        x.saw(0, 0, true);
        x.saw(0, 0, false);
        due("fits(1000, 1)", x.fits(1000, 1), BAD);
        due("fits(1, 3)", x.fits(1, 3), BAD);
    }

    @Holds(says = "the first that fits;")
    static void badComesAheadOfWhatTheMachineFinds() {
        DiverBottle x = new DiverBottle();
        due("sheet(4, 0, -1)", x.sheet(4, 0, -1), BAD);
        due("sheet(0, 3, -1)", x.sheet(0, 3, -1), BAD);
        due("sheet(0, -1, -1)", x.sheet(0, -1, -1), BAD);
        due("lay(4, -1, 0)", x.lay(4, -1, 0), BAD);
    }

    // ---- dividing

    @Holds(says = "Divided down is to the next whole number below,")
    static void dividedDown() {
        // VOLUME with warm 250 and PRESS 1000 is a quarter of the BUBBLE
        DiverBottle x = bottle("warm 250;diver 100 3;diver 100 4;diver 100 5;diver 100 7;diver 100 8;");
        int[] weights = {100, 99, 99, 99, 98};
        for (int k = 0; k < 5; k++) due("weighs(" + k + ", 0, 0)", x.weighs(k, 0, 0), weights[k]);
    }

    @Holds(says = "up to the next above;")
    static void dividedUp() {
        // BUBBLES 478 and 526 are 48 apart
        DiverBottle x = bottle("diver 140 0 rate 16;diver 140 0 rate 17;diver 140 0 rate 15;diver 140 0 rate 49;");
        int[] ticks = {3, 3, 4, 1};
        for (int k = 0; k < 4; k++) due("bladder(" + k + ", 0, 100, 0)", x.bladder(k, 0, 100, 0), ticks[k]);
    }

    @Holds(says = "cut is towards 0.")
    static void cutIsTowardsZero() {
        int[] weights = {7, 8, 9, 15, 16, -7, -8, -9, -15, -16};
        int[] paces = {7, 7, 8, 14, 14, -7, -7, -8, -14, -14};
        for (int i = 0; i < weights.length; i++) {
            due("PACE by WEIGHT " + weights[i], paceBehindOneTick(weights[i], 8), paces[i]);
        }
    }

    /** Without a BUBBLE, in salt from the top on, WEIGHT is the same everywhere. */
    private static int paceBehindOneTick(int weight, int drag) {
        DiverBottle x = bottle("drag " + drag + ";salt 0 50;diver " + (50 + weight) + " 0;");
        x.set(0, 50);
        due("diver(0, 9)", x.diver(0, 9), weight);
        x.go(1);
        due("diver(0, 7) is more by PACE", x.diver(0, 7), 3200 + x.diver(0, 8));
        return x.diver(0, 8);
    }

    // ---- RULES

    /** A rule's line before and behind its number; both ends are taken, what is beyond is a FAULT, untold it is first. */
    private static void ruleBounds(int rule, String before, String behind, int least, int most, int first) {
        due("rule(" + rule + ") at first", new DiverBottle().rule(rule), first);
        due("rule(" + rule + ") untold", bottle("diver 1 1;").rule(rule), first);
        due(before + least, bottle(before + least + behind).rule(rule), least);
        due(before + most, bottle(before + most + behind).rule(rule), most);
        if (least > 0) Check.faulty(before + "^" + (least - 1) + behind, 3);
        Check.faulty(before + "^" + (most + 1) + behind, 3);
    }

    @Holds(says = "RULES: 0 height (10 to 200; 100)")
    static void height() {
        ruleBounds(0, "height ", ";", 10, 200, 100);
    }

    @Holds(says = "1 air (800 to 1200; 1000)")
    static void air() {
        ruleBounds(1, "air ", ";", 800, 1200, 1000);
    }

    @Holds(says = "2 warm (250 to 350; 293)")
    static void warm() {
        ruleBounds(2, "warm ", ";", 250, 350, 293);
    }

    @Holds(says = "3 drag (1 to 64; 8)")
    static void drag() {
        ruleBounds(3, "drag ", ";", 1, 64, 8);
        due("PACE by drag 1", paceBehindOneTick(49, 1), 0);
        due("PACE by drag 64", paceBehindOneTick(49, 64), 49);
    }

    @Holds(says = "4 salt (0 to 201; 201)")
    static void salt() {
        ruleBounds(4, "salt ", " 7;", 0, 201, 201);
    }

    @Holds(says = "5 more (0 to 99; 0)")
    static void more() {
        ruleBounds(5, "salt 7 ", ";", 0, 99, 0);
    }

    @Holds(says = "6 ring (0 to 999; 0: there is none).")
    static void ring() {
        ruleBounds(6, "ring ", ";", 0, 999, 0);
    }

    @Holds(says = "6 ring (0 to 999; 0: there is none).")
    static void ringOfZeroIsNone() {
        DiverBottle none = bottle("ring 0;height 10;diver 65 0 hook;");
        due("now(4)", none.now(4), 0);
        due("go(99)", none.go(99), 1);
        due("diver(0, 5)", none.diver(0, 5), 0);
        due("drop()", none.drop(), 0);
        due("now(4) behind drop()", none.now(4), 0);
        due("now(4) of the least ring", bottle("ring 1;").now(4), 1);
    }

    // ---- DEPTHS

    @Holds(says = "DEPTHS 0 to height.")
    static void depthsEndAtHeight() {
        for (int height : new int[] {10, 100, 200}) {
            DiverBottle x = bottle("height " + height + ";diver 10 0;");
            bounds("set(0, depth)", d -> x.set(0, d), 0, height, BAD);
            bounds("press(depth)", d -> x.press(d), 0, height, BAD);
            bounds("weighs(0, depth, 0)", d -> x.weighs(0, d, 0), 0, height, NO_WEIGHT);
            bounds("bladder(0, depth, 0, 1)", d -> x.bladder(0, d, 0, 1), 0, height, BAD);
            bounds("bladder(0, 0, depth, 1)", d -> x.bladder(0, 0, d, 1), 0, height, BAD);
            bounds("saw(0, depth, true)", d -> x.saw(0, d, true), 0, height, BAD);
            x.sheet(0, 2, 3);
            bounds("read of a depth", d -> {
                x.lay(0, 1, d);
                return x.read(0, 2, 0, 1);
            }, 0, height, -20);
        }
    }

    // ---- a DIVER

    @Holds(says = "A DIVER (6):")
    static void sixDivers() {
        DiverBottle x = bottle("diver 1 1;diver 2 1;diver 3 1;diver 4 1;diver 5 1;diver 6 1;");
        for (int k = 0; k < 6; k++) due("diver(" + k + ", 0)", x.diver(k, 0), k + 1);
        due("diver(6, 0)", x.diver(6, 0), NO_WEIGHT);
        due("count(0)", x.count(0), 6);
        due("now(2)", x.now(2), 63);
        Check.faulty("diver 1 1;".repeat(6) + "^diver 1 1;", 5);
    }

    /** What can be asked of a DIVER. */
    private static int[] asked(DiverBottle x, int k) {
        return new int[] {x.diver(k, 0), x.diver(k, 1), x.diver(k, 2), x.diver(k, 3), x.diver(k, 4), x.diver(k, 9),
            x.weighs(k, 50, 30), x.turning(k, 3), x.holding(k, 60), x.back(k), x.goesAt(k), x.lifts(k),
            x.hold(k, 20, 5, 2, 3, 60, 0), x.hold(k, 20, 5, 2, 3, 60, 1), x.hold(k, 20, 5, 2, 3, 60, 2),
            x.hold(k, 20, 5, 2, 3, 60, 3), x.late(k, 20, 5, 3, 60), x.step(k, 20, 5, 2, 60, 0), x.step(k, 20, 5, 2, 60, 1),
            x.hours(k, 0), x.hours(k, 1), x.trips(k), x.bladder(k, 0, 50, 0), x.bladder(k, 0, 50, 1), x.beats(k, 20, 7, 0),
            x.beats(k, 20, 7, 1), x.set(k, 30), x.diver(k, 6), x.diver(k, 9)};
    }

    @Holds(says = "A DIVER (6):")
    static void eachOfSixIsAsHeIsAlone() {
        String rules = "salt 70 9;hour 3 350;";
        String[] lines = {"diver 140 500 leak 9 rate 1;", "diver 7 0 hook;", "diver 100 380 leak 2;", "diver 9 200 rate 5;",
            "diver 300 1065 rate 9;", "diver 140 480 hook leak 3;"};
        DiverBottle six = bottle(rules + String.join("", lines));
        for (int k = 0; k < 6; k++) {
            int[] is = asked(six, k), alone = asked(bottle(rules + lines[k]), 0);
            for (int i = 0; i < is.length; i++) due("part " + i + " of DIVER " + k, is[i], alone[i]);
        }
    }

    private static void diverBounds(int what, String before, String behind, int least, int most) {
        due(before + least, bottle(before + least + behind).diver(0, what), least);
        due(before + most, bottle(before + most + behind).diver(0, what), most);
        if (least > 0) Check.faulty(before + "^" + (least - 1) + behind, 3);
        // what has five figures is no NUMBER at all
        Check.faulty(before + "^" + (most + 1) + behind, most == 9999 ? 1 : 3);
    }

    @Holds(says = "HEAVY (1 to 999)")
    static void heavy() {
        diverBounds(0, "diver ", " 5;", 1, 999);
    }

    @Holds(says = "BUBBLE (0 to 9999)")
    static void bubble() {
        diverBounds(1, "diver 5 ", ";", 0, 9999);
    }

    @Holds(says = "LEAK (0 to 99)")
    static void leak() {
        diverBounds(2, "diver 5 5 leak ", ";", 0, 99);
        due("untold", bottle("diver 5 5 rate 7 hook;").diver(0, 2), 0);
    }

    @Holds(says = "RATE (0 to 99)")
    static void rate() {
        diverBounds(3, "diver 5 5 rate ", ";", 0, 99);
        due("untold", bottle("diver 5 5 leak 7 hook;").diver(0, 3), 0);
    }

    @Holds(says = "whether he has a HOOK.")
    static void hook() {
        due("with it", bottle("diver 5 5 hook;").diver(0, 4), 1);
        due("without it", bottle("diver 5 5 leak 7 rate 7;").diver(0, 4), 0);
        // a text before had one at this place
        DiverBottle x = bottle("diver 5 5 hook leak 9 rate 9;");
        Check.tell(x, "diver 5 5;");
        for (int what = 2; what < 5; what++) due("diver(0, " + what + ") told anew", x.diver(0, what), 0);
    }
}
