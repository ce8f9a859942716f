/** Promises 26 to 32: hold, late, step, hours, trips, bladder, beats. */
final class PromiseHandEdges {
    private static final int BAD = Check.BAD, NONE = Check.NONE;
    /** WEIGHT 10 wherever he is and whatever the THUMB: he is 9, 26, 50, 80 below where he began. */
    private static final String SINKS = "height 100;diver 10 0;";
    private static final String RISES = "height 100;salt 0 99;diver 89 0;";

    private PromiseHandEdges() {
    }

    private static void due(String call, long got, long want) {
        Check.due(call, got, want);
    }

    private static DiverBottle bottle(String text) {
        return Check.bottle(text);
    }

    // ---- hold

    @Holds(in = 26, says = "A HOLD of a DIVER at a DEPTH (1 to height less 1), from THUMB t, LATE (0 to 50), STEP (1 to 50), n TICKS (1 to 999):")
    static void holdDepths() {
        for (int height : new int[] {10, 200}) {
            DiverBottle x = bottle("height " + height + ";diver 1 0;");
            Check.bounds("hold, height " + height, d -> x.hold(0, d, 0, 0, 1, 1, 1), 1, height - 1, BAD);
            due("hold at 1", x.hold(0, 1, 0, 0, 1, 1, 1), 65);
            due("hold at height less 1", x.hold(0, height - 1, 0, 0, 1, 1, 1), 64 * height - 63);
        }
    }

    @Holds(in = 26, says = "A HOLD of a DIVER at a DEPTH (1 to height less 1), from THUMB t, LATE (0 to 50), STEP (1 to 50), n TICKS (1 to 999):")
    static void holdNumbers() {
        DiverBottle x = bottle(SINKS);
        Check.bounds("hold, THUMB", t -> x.hold(0, 50, t, 0, 1, 1, 1), 0, 500, BAD);
        Check.bounds("hold, LATE", late -> x.hold(0, 50, 0, late, 1, 1, 1), 0, 50, BAD);
        Check.bounds("hold, STEP", step -> x.hold(0, 50, 0, 0, step, 1, 1), 1, 50, BAD);
        Check.bounds("hold, n", n -> x.hold(0, 50, 0, 0, 1, n, 1), 1, 999, BAD);
        due("STEP 1", x.hold(0, 50, 500, 0, 1, 2, 3), 499);
        due("STEP 50", x.hold(0, 50, 500, 0, 50, 2, 3), 450);
        // WEIGHT 0: 999 TICKS go and he is not LOST
        DiverBottle still = bottle("salt 0 50;diver 50 0;");
        due("999 TICKS", still.hold(0, 50, 0, 0, 1, 999, 0), NONE);
        // a WEIGHT of 1 without drag is 1, 2, 3 .. a TICK: 64 and more in 11
        DiverBottle slow = bottle("drag 64;diver 1 0;");
        due("10 TICKS", slow.hold(0, 99, 0, 0, 1, 10, 1), 6391);
        due("11 TICKS", slow.hold(0, 99, 0, 0, 1, 11, 0), 11);
    }

    @Holds(in = 26, says = "0 TICKS till he is LOST (NONE),")
    static void ticksTillLost() {
        // 9, 26, 50, 80: beyond 64 in the fourth TICK
        DiverBottle x = bottle(SINKS);
        due("3 TICKS", x.hold(0, 99, 0, 0, 1, 3, 0), NONE);
        due("4 TICKS", x.hold(0, 99, 0, 0, 1, 4, 0), 4);
        due("999 TICKS", x.hold(0, 99, 0, 0, 1, 999, 0), 4);
        DiverBottle up = bottle(RISES);
        due("3 TICKS up", up.hold(0, 1, 0, 0, 1, 3, 0), NONE);
        due("4 TICKS up", up.hold(0, 1, 0, 0, 1, 4, 0), 4);
        due("in the first TICK", bottle("drag 64;diver 65 0;").hold(0, 99, 0, 0, 1, 1, 0), 1);
        // LOST just in the last of 999 TICKS, or one later: drag 2, so PACE is 1 each TICK
        DiverBottle slow = bottle("height 100;drag 2;diver 1 0;");
        due("PACE 1: 64 TICKS", slow.hold(0, 99, 0, 0, 1, 64, 0), 64);
        due("PACE 1: 63 TICKS", slow.hold(0, 99, 0, 0, 1, 63, 0), NONE);
        due("PACE 1: 960 TICKS", slow.hold(0, 85, 0, 0, 1, 999, 0), 960);
        due("PACE 1: 1024 are too many", slow.hold(0, 84, 0, 0, 1, 999, 0), NONE);
    }

    @Holds(in = 26, says = "1 the FINE DEPTH at the end (of the TICK by which he is LOST),")
    static void fineDepthAtTheEnd() {
        DiverBottle x = bottle(SINKS);
        int[] fines = {6345, 6362, 6386, 6400, 6400};
        for (int n = 1; n <= 5; n++) due(n + " TICKS", x.hold(0, 99, 0, 0, 1, n, 1), fines[n - 1]);
        DiverBottle up = bottle(RISES);
        int[] upFines = {55, 38, 14, 0, 0};
        for (int n = 1; n <= 5; n++) due(n + " TICKS up", up.hold(0, 1, 0, 0, 1, n, 1), upFines[n - 1]);
    }

    @Holds(in = 26, says = "2 the farthest that he was from DEPTH (FINE),")
    static void theFarthest() {
        DiverBottle x = bottle(SINKS);
        int[] far = {9, 26, 50, 64, 64};
        for (int n = 1; n <= 5; n++) due(n + " TICKS", x.hold(0, 99, 0, 0, 1, n, 2), far[n - 1]);
        for (int n = 1; n <= 5; n++) due(n + " TICKS up", bottle(RISES).hold(0, 1, 0, 0, 1, n, 2), far[n - 1]);
        due("he stays", bottle("salt 0 50;diver 50 0;").hold(0, 50, 0, 0, 1, 99, 2), 0);
        due("not of the hold before", x.hold(0, 99, 0, 0, 1, 1, 2), 9);
    }

    @Holds(in = 26, says = "2 the farthest that he was from DEPTH (FINE),")
    static void theFarthestIsNotTheEnd() {
        DiverBottle x = bottle("diver 140 497;");
        int far = 0, nearer = 0;
        for (int n = 1; n <= 60; n++) {
            int away = Math.abs(x.hold(0, 11, 0, 0, 22, n, 1) - 704);
            far = Math.max(far, away);
            if (away < far) nearer++;
            due(n + " TICKS", x.hold(0, 11, 0, 0, 22, n, 2), far);
        }
        // less deep first, then deeper, then there again
        due("above, 3 TICKS", x.hold(0, 11, 0, 0, 22, 3, 1), 692);
        due("there again, 27 TICKS", x.hold(0, 11, 0, 0, 22, 27, 1), 704);
        due("he came nearer", nearer > 0 ? 1 : 0, 1);
    }

    @Holds(in = 26, says = "3 THUMB at the end.")
    static void thumbAtTheEnd() {
        // it is not turned behind the TICK by which he is LOST
        DiverBottle x = bottle(SINKS);
        int[] thumbs = {100, 95, 90, 85, 85, 85};
        for (int n = 1; n <= 6; n++) due(n + " TICKS", x.hold(0, 99, 100, 0, 5, n, 3), thumbs[n - 1]);
    }

    @Holds(in = 26, says = "BAD.")
    static void holdBad() {
        DiverBottle x = bottle(SINKS);
        Check.bounds("hold(k)", k -> x.hold(k, 50, 0, 0, 1, 1, 1), 0, 0, BAD);
        Check.bounds("hold(what)", what -> x.hold(0, 50, 0, 0, 1, 1, what), 0, 3, BAD);
        due("hold in a bottle without DIVERS", new DiverBottle().hold(0, 50, 0, 0, 1, 1, 0), BAD);
    }

    // ---- late

    @Holds(in = 27, says = "The greatest LATE (0 to 50) up to which, each one, he is not LOST in n TICKS.")
    static void lateEachOne() {
        DiverBottle x = bottle("diver 140 497;");
        // up to 10 he is held, with 11 LOST, with 13 held again
        for (int late = 0; late <= 10; late++) due("held, LATE " + late, x.hold(0, 11, 0, late, 22, 50, 0), NONE);
        due("LOST, LATE 11", x.hold(0, 11, 0, 11, 22, 50, 0) > 0 ? 1 : 0, 1);
        due("held, LATE 13", x.hold(0, 11, 0, 13, 22, 50, 0), NONE);
        due("late(0, 11, 0, 22, 50)", x.late(0, 11, 0, 22, 50), 10);
    }

    @Holds(in = 27, says = "The greatest LATE (0 to 50) up to which, each one, he is not LOST in n TICKS.")
    static void lateOf50() {
        DiverBottle x = bottle(SINKS);
        due("never LOST in 3 TICKS", x.late(0, 99, 0, 5, 3), 50);
        due("never LOST", bottle("salt 0 50;diver 50 0;").late(0, 50, 0, 5, 999), 50);
    }

    @Holds(in = 27, says = "BAD;")
    static void lateBad() {
        DiverBottle x = bottle(SINKS);
        Check.bounds("late(k)", k -> x.late(k, 50, 0, 1, 1), 0, 0, BAD);
        Check.bounds("late(depth)", d -> x.late(0, d, 0, 1, 1), 1, 99, BAD);
        Check.bounds("late(t)", t -> x.late(0, 50, t, 1, 1), 0, 500, BAD);
        Check.bounds("late(step)", s -> x.late(0, 50, 0, s, 1), 1, 50, BAD);
        Check.bounds("late(n)", n -> x.late(0, 50, 0, 1, n), 1, 999, BAD);
    }

    @Holds(in = 27, says = "NONE: with LATE 0 he is.")
    static void lateNone() {
        DiverBottle x = bottle(SINKS);
        due("LOST in the 4th TICK", x.late(0, 99, 0, 5, 4), NONE);
        // with LATE 1 he is held, but with 0 he is LOST
        DiverBottle y = bottle("diver 140 497;");
        due("LOST, LATE 0", y.hold(0, 1, 0, 0, 13, 50, 0) > 0 ? 1 : 0, 1);
        due("held, LATE 1", y.hold(0, 1, 0, 1, 13, 50, 0), NONE);
        due("late(0, 1, 0, 13, 50)", y.late(0, 1, 0, 13, 50), NONE);
    }

    // ---- step

    /** How many STEPS hold him as long as step() tells; the first of them is its answer. */
    private static int stepsAsGood(DiverBottle x, int t, int late, int n, int best) {
        int longest = 0, first = 0, many = 0;
        for (int step = 1; step <= 50; step++) {
            int ticks = x.hold(0, 1, t, late, step, n, 0);
            if (ticks == NONE) ticks = 1000;
            if (ticks > longest) {
                longest = ticks;
                first = step;
                many = 0;
            }
            if (ticks == longest) many++;
        }
        due("the first best STEP", first, best);
        due("step what 0", x.step(0, 1, t, late, n, 0), best);
        due("step what 1", x.step(0, 1, t, late, n, 1), longest == 1000 ? NONE : longest);
        return many;
    }

    @Holds(in = 28, says = "The STEP (1 to 50) with which, LATE as told, he is LOST latest in n TICKS (not at all: best), of several the least (what 0),")
    static void notAtAllIsBest() {
        DiverBottle x = bottle("diver 140 500;");
        due("LOST with STEP 1", x.hold(0, 1, 4, 0, 1, 50, 0) > 0 ? 1 : 0, 1);
        due("LOST with STEP 50", x.hold(0, 1, 4, 0, 50, 50, 0) > 0 ? 1 : 0, 1);
        due("several are best", stepsAsGood(x, 4, 0, 50, 29) > 1 ? 1 : 0, 1);
        due("the last alone is best", stepsAsGood(x, 20, 5, 50, 50), 1);
    }

    @Holds(in = 28, says = "The STEP (1 to 50) with which, LATE as told, he is LOST latest in n TICKS (not at all: best), of several the least (what 0),")
    static void ofSeveralTheLeast() {
        DiverBottle x = bottle("diver 140 500;"), sinks = bottle(SINKS);
        due("two are LOST at once, latest", stepsAsGood(x, 0, 0, 200, 36), 2);
        due("the last alone is LOST latest", stepsAsGood(x, 20, 5, 200, 50), 1);
        due("all are LOST at once", sinks.step(0, 99, 0, 0, 9, 0), 1);
        due("none is LOST", sinks.step(0, 99, 0, 0, 3, 0), 1);
    }

    @Holds(in = 28, says = "TICKS till then (1; NONE: he is not).")
    static void stepTicks() {
        DiverBottle x = bottle(SINKS);
        due("LOST in the 4th of 4", x.step(0, 99, 0, 0, 4, 1), 4);
        due("not in 3", x.step(0, 99, 0, 0, 3, 1), NONE);
        due("LOST in the first", bottle("drag 64;diver 65 0;").step(0, 99, 0, 0, 9, 1), 1);
    }

    @Holds(in = 28, says = "BAD.")
    static void stepBad() {
        DiverBottle x = bottle(SINKS);
        Check.bounds("step(k)", k -> x.step(k, 50, 0, 0, 1, 0), 0, 0, BAD);
        Check.bounds("step(depth)", d -> x.step(0, d, 0, 0, 1, 0), 1, 99, BAD);
        Check.bounds("step(t)", t -> x.step(0, 50, t, 0, 1, 0), 0, 500, BAD);
        Check.bounds("step(late)", late -> x.step(0, 50, 0, late, 1, 0), 0, 50, BAD);
        Check.bounds("step(n)", n -> x.step(0, 50, 0, 0, n, 0), 1, 999, BAD);
        Check.bounds("step(what)", what -> x.step(0, 50, 0, 0, 1, what), 0, 1, BAD);
    }

    // ---- hours, trips

    @Holds(in = 29, says = "HOURS: those behind which he is down (bits 0 to 23; what 0), how often he went either way (1).")
    static void hoursOfNoneAndAll() {
        DiverBottle x = bottle("diver 1 0;diver 1 9999;");
        due("all 24", x.hours(0, 0), 0xFFFFFF);
        due("once down", x.hours(0, 1), 1);
        due("none", x.hours(1, 0), 0);
        due("never", x.hours(1, 1), 0);
        DiverBottle salt = bottle("salt 100 99;diver 50 0;");
        due("every other one", salt.hours(0, 0), 0x555555);
        due("24 times", salt.hours(0, 1), 24);
    }

    @Holds(in = 29, says = "HOURS: those behind which he is down (bits 0 to 23; what 0), how often he went either way (1).")
    static void hoursFirstAndLast() {
        // WEIGHT at the top is 1 by 294, 0 by 295; on the floor -1 by 327
        DiverBottle x = bottle("warm 295;hour 0 294;hour 1 327;hour 23 294;diver 100 340;");
        due("HOURS 0 and 23", x.hours(0, 0), 0x800001);
        due("down, up, down", x.hours(0, 1), 3);
        // down by 250; on a floor of 10 66000 by 1010 is 65, on one of 100 it would be 60
        DiverBottle low = bottle("height 10;warm 330;hour 0 250;diver 62 200;");
        due("HOUR 0", low.hours(0, 0), 1);
        due("down, up", low.hours(0, 1), 2);
    }

    @Holds(in = 29, says = "BAD.")
    static void hoursBad() {
        DiverBottle x = bottle("diver 1 9999;diver 1 0;");
        Check.bounds("hours(k, 0)", k -> x.hours(k, 0), 0, 1, BAD);
        Check.bounds("hours(0, what)", what -> x.hours(0, what), 0, 1, BAD);
    }

    @Holds(in = 30, says = "TRIPS that he comes up from (999 at most; LOAD as now).")
    static void trips999AtMost() {
        // HEAVY 1 comes up with 8 and more (2344 by 1100 is 2)
        DiverBottle x = bottle("diver 1 9999 leak 9;diver 1 9999 leak 10;diver 1 9999 leak 11;diver 1 8;diver 1 7;diver 1 9 leak 1;");
        int[] trips = {999, 999, 908, 999, 0, 1};
        for (int k = 0; k < 6; k++) due("trips(" + k + ")", x.trips(k), trips[k]);
        // 9998 less 999 times 10 is 8, 9997 is 7
        due("just 999", bottle("diver 1 9998 leak 10;").trips(0), 999);
        due("just 998", bottle("diver 1 9997 leak 10;").trips(0), 998);
    }

    @Holds(in = 30, says = "TRIPS that he comes up from (999 at most; LOAD as now).")
    static void tripsWithALoadAndWithoutABubble() {
        // on the floor of 10 VOLUME is 104 (105480 by 1010): LOAD 3 comes up, 4 not
        for (int ring = 3; ring <= 4; ring++) {
            DiverBottle x = bottle("height 10;ring " + ring + ";diver 100 360 hook;");
            due("without LOAD", x.trips(0), 999);
            x.thumb(500);
            x.go(99);
            due("LOAD", x.diver(0, 5), ring);
            due("with LOAD " + ring, x.trips(0), ring == 3 ? 999 : 0);
        }
        // a BUBBLE is 0 at least
        due("light without a BUBBLE", bottle("salt 100 99;diver 50 5 leak 9;").trips(0), 999);
        due("WEIGHT 0 without a BUBBLE", bottle("salt 100 50;diver 50 0;").trips(0), 0);
    }

    @Holds(in = 30, says = "BAD.")
    static void tripsBad() {
        DiverBottle x = bottle("diver 1 9999;diver 1 0;");
        Check.bounds("trips(k)", k -> x.trips(k), 0, 1, BAD);
    }

    // ---- bladder, beats

    @Holds(in = 31, says = "TICKS of a BLADDER from a DEPTH to another one by RATE, divided up (what 0; 0: the same), the BUBBLE there (1).")
    static void bladderTicks() {
        // 478 at the top, 526 on the floor: 48 apart
        DiverBottle x = bottle("diver 140 0 rate 24;diver 140 0 rate 23;diver 140 0 rate 25;");
        int[] ticks = {2, 3, 2};
        for (int k = 0; k < 3; k++) due("bladder(" + k + ", 0, 100, 0)", x.bladder(k, 0, 100, 0), ticks[k]);
        for (int k = 0; k < 3; k++) due("bladder(" + k + ", 100, 0, 0)", x.bladder(k, 100, 0, 0), ticks[k]);
        due("the BUBBLE at the top", x.bladder(0, 100, 0, 1), 478);
        due("the BUBBLE on the floor", x.bladder(0, 0, 100, 1), 526);
    }

    @Holds(in = 31, says = "TICKS of a BLADDER from a DEPTH to another one by RATE, divided up (what 0; 0: the same), the BUBBLE there (1).")
    static void bladderTheSame() {
        // 140140 by 293 and 140280 by 293 are both above 478: 479 at DEPTHS 1 and 2
        DiverBottle x = bottle("diver 140 0 rate 9;");
        due("the same DEPTH", x.bladder(0, 7, 7, 0), 0);
        due("the BUBBLE at 1", x.bladder(0, 0, 1, 1), 479);
        due("the BUBBLE at 2", x.bladder(0, 0, 2, 1), 479);
        due("the same BUBBLE", x.bladder(0, 1, 2, 0), 0);
        due("another BUBBLE", x.bladder(0, 0, 1, 0), 1);
    }

    @Holds(in = 31, says = "BAD;")
    static void bladderBad() {
        DiverBottle x = bottle("height 20;diver 140 0 rate 9;");
        Check.bounds("bladder(k, 0, 0, 0)", k -> x.bladder(k, 0, 0, 0), 0, 0, BAD);
        Check.bounds("bladder(0, from, 0, 0)", d -> x.bladder(0, d, 0, 0), 0, 20, BAD);
        Check.bounds("bladder(0, 0, to, 0)", d -> x.bladder(0, 0, d, 0), 0, 20, BAD);
        Check.bounds("bladder(0, 0, 0, what)", what -> x.bladder(0, 0, 0, what), 0, 1, BAD);
    }

    @Holds(in = 31, says = "NONE: RATE 0 (what 0, unless it is the same),")
    static void bladderWithoutARate() {
        DiverBottle x = bottle("diver 140 0 rate 0;");
        due("RATE 0", x.bladder(0, 0, 100, 0), NONE);
        due("RATE 0, one BUBBLE", x.bladder(0, 0, 1, 0), NONE);
        due("RATE 0, the same DEPTH", x.bladder(0, 7, 7, 0), 0);
        due("RATE 0, the same BUBBLE", x.bladder(0, 1, 2, 0), 0);
        due("RATE 0, what 1", x.bladder(0, 0, 100, 1), 526);
    }

    @Holds(in = 31, says = "no BUBBLE is enough.")
    static void bladderNotEnough() {
        // 1962 * 1274 by 250 is above 9998, 1962 * 1275 by 250 above 9999
        DiverBottle x = bottle("air 1200;warm 250;ring 963;diver 999 0 hook rate 9;");
        x.go(999);
        due("LOAD", x.diver(0, 5), 963);
        due("9999 is enough", x.bladder(0, 74, 74, 1), 9999);
        due("the same", x.bladder(0, 74, 74, 0), 0);
        due("9999 is not enough there", x.bladder(0, 74, 75, 1), NONE);
        due("9999 is not enough there, TICKS", x.bladder(0, 74, 75, 0), NONE);
        due("9999 is not enough where he comes from, TICKS", x.bladder(0, 75, 74, 0), NONE);
        due("9999 is not enough at the same DEPTH", x.bladder(0, 75, 75, 0), NONE);
    }

    @Holds(in = 32, says = "BEATS of a DIVER's HEAVY, b (0 to 9999), gain (1 to 99):")
    static void beatsNumbers() {
        // from 380 on he comes up
        DiverBottle x = bottle("diver 100 77;");
        due("b 0, gain 1", x.beats(0, 0, 1, 0), 382);
        due("b 0, gain 99", x.beats(0, 0, 99, 0), 6);
        due("b 341, gain 99", x.beats(0, 341, 99, 1), 440);
        Check.bounds("beats(0, b, 1, 0)", b -> x.beats(0, b, 1, 0), 0, 9999, BAD);
        Check.bounds("beats(0, 0, gain, 0)", gain -> x.beats(0, 0, gain, 0), 1, 99, BAD);
    }

    @Holds(in = 32, says = "TICKS from the one time at the top to the next one (what 0),")
    static void beatsTicks() {
        DiverBottle x = bottle("diver 100 0;"), salt = bottle("salt 100 99;diver 50 0;");
        due("one down, one up", salt.beats(0, 0, 1, 0), 2);
        due("one gain", x.beats(0, 340, 40, 0), 3);
        due("two gains", x.beats(0, 340, 39, 0), 4);
    }

    @Holds(in = 32, says = "BUBBLE when he leaves the floor (1).")
    static void beatsBubble() {
        DiverBottle x = bottle("diver 100 0;"), salt = bottle("salt 100 99;diver 50 0;");
        due("no gain", salt.beats(0, 3, 99, 1), 3);
        due("one gain", x.beats(0, 340, 40, 1), 380);
        due("two gains", x.beats(0, 340, 39, 1), 418);
    }

    @Holds(in = 32, says = "BAD;")
    static void beatsBad() {
        DiverBottle x = bottle("diver 100 0;diver 50 0;");
        Check.bounds("beats(k, 0, 1, 0)", k -> x.beats(k, 0, 1, 0), 0, 1, BAD);
        Check.bounds("beats(0, 0, 1, what)", what -> x.beats(0, 0, 1, what), 0, 1, BAD);
    }

    @Holds(in = 32, says = "NONE: he does not go down, never comes up.")
    static void beatsNone() {
        DiverBottle x = bottle("diver 100 0;");
        for (int what = 0; what < 2; what++) {
            due("WEIGHT 1 at the top", x.beats(0, 341, 39, what), what == 0 ? 3 : 380);
            due("WEIGHT 0 at the top", x.beats(0, 342, 39, what), NONE);
            due("WEIGHT below 0 at the top", x.beats(0, 9999, 39, what), NONE);
            due("WEIGHT 0 by the salt", bottle("salt 0 50;diver 50 0;").beats(0, 0, 1, what), NONE);
        }
        // he always comes up once: the heaviest, coldest and deepest needs 5600 of the 9999
        due("5600", bottle("air 1200;height 200;warm 250;diver 999 0;").beats(0, 0, 1, 1), 5600);
    }
}
