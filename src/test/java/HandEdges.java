/**
 * 'Terms': a HOLD, HOURS, TRIPS, a BLADDER, BEATS.
 *
 * A DIVER without a BUBBLE does not feel the THUMB, so that THUMB at the end tells what the hand saw.
 */
final class HandEdges {
    private static final int NONE = Check.NONE;
    /** WEIGHT 10: he is 9, 26, 50, 80 below where he began. */
    private static final String SINKS = "diver 10 0;";
    /** WEIGHT -10: he is as far above. */
    private static final String RISES = "salt 0 99;diver 89 0;";

    private HandEdges() {
    }

    private static void due(String call, long got, long want) {
        Check.due(call, got, want);
    }

    private static DiverBottle bottle(String text) {
        return Check.bottle(text);
    }

    // ---- a HOLD

    @Holds(says = "A HOLD of a DIVER alone (BUBBLE, LOAD as now; LEAK, HOOK do nothing; all stays as it is):")
    static void leakAndHookDoNothing() {
        DiverBottle x = bottle("height 20;ring 9;diver 10 3 leak 3 hook;diver 5 0;");
        x.thumb(33);
        x.go(2);
        int[] before = new int[30];
        for (int i = 0; i < 30; i++) before[i] = part(x, i);
        due("LOST on the floor", x.hold(0, 19, 0, 0, 5, 99, 0), 4);
        x.late(0, 19, 0, 5, 99);
        x.step(0, 19, 0, 0, 99, 0);
        for (int i = 0; i < 30; i++) due("part " + i, part(x, i), before[i]);
        due("the same once more", x.hold(0, 19, 0, 0, 5, 99, 0), 4);
    }

    private static int part(DiverBottle x, int i) {
        if (i < 10) return x.diver(0, i);
        return i < 20 ? x.diver(1, i - 10) : i < 26 ? x.now(i - 20) : x.count(i - 26);
    }

    @Holds(says = "A HOLD of a DIVER alone (BUBBLE, LOAD as now; LEAK, HOOK do nothing; all stays as it is):")
    static void loadAsNow() {
        DiverBottle x = bottle("height 20;ring 10;diver 10 0 hook;");
        due("without LOAD", x.hold(0, 5, 0, 0, 5, 1, 1), 329);
        x.go(200);
        due("LOAD", x.diver(0, 5), 10);
        // WEIGHT 20: 20 less 2
        due("with LOAD", x.hold(0, 5, 0, 0, 5, 1, 1), 338);
    }

    @Holds(says = "from a DEPTH on, PACE 0, THUMB as told:")
    static void beginsWithoutAPace() {
        DiverBottle x = bottle(SINKS);
        x.thumb(77);
        x.go(5);
        due("his PACE", x.diver(0, 8) > 0 ? 1 : 0, 1);
        due("FINE DEPTH behind one TICK", x.hold(0, 50, 100, 0, 5, 1, 1), 3209);
        due("THUMB behind one TICK", x.hold(0, 50, 100, 0, 5, 1, 3), 100);
        due("the least DEPTH", x.hold(0, 1, 0, 0, 5, 1, 1), 73);
        due("the greatest DEPTH", x.hold(0, 99, 0, 0, 5, 1, 1), 6345);
    }

    @Holds(says = "each TICK the hand first sees his FINE DEPTH of so many TICKS ago (LATE 0: now; ahead of the beginning: where he began):")
    static void whatTheHandSees() {
        DiverBottle x = bottle(SINKS);
        // LATE 0 sees where he began in the first TICK, and from the second on that he is deeper
        for (int n = 1; n <= 4; n++) due("LATE 0, " + n + " TICKS", x.hold(0, 50, 100, 0, 5, n, 3), 105 - 5 * n);
        for (int late = 0; late <= 4; late++) {
            due("LATE " + late + ", as many TICKS and one", x.hold(0, 50, 100, late, 5, late + 1, 3), 100);
            due("LATE " + late + ", two more", x.hold(0, 50, 100, late, 5, late + 2, 3), 95);
        }
        DiverBottle slow = bottle("height 200;drag 2;diver 1 0;");
        due("LATE 50, 51 TICKS", slow.hold(0, 1, 500, 50, 1, 51, 3), 500);
        due("LATE 50, 52 TICKS", slow.hold(0, 1, 500, 50, 1, 52, 3), 499);
        due("LATE 49, 52 TICKS", slow.hold(0, 1, 500, 49, 1, 52, 3), 498);
    }

    @Holds(says = "is that less deep than the DEPTH, THUMB is more by STEP, deeper, less (0 to 500);")
    static void lessDeepDeeperAndNeither() {
        due("deeper", bottle(SINKS).hold(0, 50, 100, 0, 7, 2, 3), 93);
        due("less deep", bottle(RISES).hold(0, 50, 100, 0, 7, 2, 3), 107);
        due("neither", bottle("salt 0 50;diver 50 0;").hold(0, 50, 100, 0, 7, 99, 3), 100);
        // by one FINE DEPTH, within the same DEPTH
        due("deeper by 1", bottle("diver 1 0;").hold(0, 50, 100, 0, 7, 2, 3), 93);
        due("less deep by 1", bottle("salt 0 2;diver 1 0;").hold(0, 50, 100, 0, 7, 2, 3), 107);
    }

    @Holds(says = "is that less deep than the DEPTH, THUMB is more by STEP, deeper, less (0 to 500);")
    static void thumbEndsAt0AndAt500() {
        DiverBottle down = bottle(SINKS), up = bottle(RISES);
        int[] from = {0, 4, 5, 6}, less = {0, 0, 0, 1}, more = {500, 500, 500, 499};
        for (int i = 0; i < 4; i++) {
            due("less from " + from[i], down.hold(0, 50, from[i], 0, 5, 2, 3), less[i]);
            due("more from " + (500 - from[i]), up.hold(0, 50, 500 - from[i], 0, 5, 2, 3), more[i]);
        }
    }

    @Holds(says = "then the TICK goes.")
    static void theTickGoesByTheThumbThatIsNew() {
        // 200 less 29300 * 2 by PRESS: heavier by each THUMB; the first TICK is by THUMB 0, the second by 50
        DiverBottle x = bottle("drag 64;diver 200 800;");
        int first = x.weighs(0, 50, 0);
        due("WEIGHT by THUMB 0", first, -23);
        due("one TICK", x.hold(0, 50, 0, 0, 50, 1, 1), 3200 - 23);
        due("he is at DEPTH 49 then, WEIGHT by THUMB 50", x.weighs(0, 49, 50), -13);
        due("two TICKS", x.hold(0, 50, 0, 0, 50, 2, 1), 3200 - 23 - 36);
    }

    @Holds(says = "LOST: he is at the top or on the floor then; it ends.")
    static void lostOnTheFloor() {
        // drag 64: WEIGHTS 64, 65 give PACES 63, 64
        due("one FINE DEPTH above", bottle("height 10;drag 64;diver 64 0;").hold(0, 9, 0, 0, 1, 1, 0), NONE);
        due("just there", bottle("height 10;drag 64;diver 65 0;").hold(0, 9, 0, 0, 1, 1, 0), 1);
        due("beyond", bottle("height 10;drag 64;diver 99 0;").hold(0, 9, 0, 0, 1, 1, 0), 1);
        DiverBottle x = bottle("height 10;drag 64;diver 65 0;");
        due("it ends: TICKS", x.hold(0, 8, 100, 0, 1, 99, 0), 2);
        due("it ends: FINE DEPTH", x.hold(0, 8, 100, 0, 1, 99, 1), 640);
        due("it ends: THUMB", x.hold(0, 8, 100, 0, 1, 99, 3), 99);
    }

    @Holds(says = "LOST: he is at the top or on the floor then; it ends.")
    static void lostAtTheTop() {
        due("one FINE DEPTH below", bottle("drag 64;salt 0 99;diver 35 0;").hold(0, 1, 0, 0, 1, 1, 0), NONE);
        due("just there", bottle("drag 64;salt 0 99;diver 34 0;").hold(0, 1, 0, 0, 1, 1, 0), 1);
        due("beyond", bottle("drag 64;salt 0 99;diver 1 0;").hold(0, 1, 0, 0, 1, 1, 0), 1);
        DiverBottle x = bottle("drag 64;salt 0 99;diver 34 0;");
        due("it ends: TICKS", x.hold(0, 2, 100, 0, 1, 99, 0), 2);
        due("it ends: FINE DEPTH", x.hold(0, 2, 100, 0, 1, 99, 1), 0);
        due("it ends: THUMB", x.hold(0, 2, 100, 0, 1, 99, 3), 101);
    }

    // ---- HOURS

    @Holds(says = "HOURS one behind another from 0 on, by their WARMTH, THUMB 0, BUBBLE, LOAD as now: he is at the top first;")
    static void hoursBeginAtTheTop() {
        // with BUBBLE 340 WEIGHT at the top is 1 by 294 (99960 by 1000), 0 by 295
        DiverBottle x = bottle("warm 295;hour 0 294;diver 100 340;");
        due("down from HOUR 0 on", x.hours(0, 0), 0xFFFFFF);
        x.thumb(500);
        x.warm(250);
        x.set(0, 100);
        due("THUMB, warm and DEPTH do nothing", x.hours(0, 0), 0xFFFFFF);
        DiverBottle last = bottle("warm 295;hour 23 294;diver 100 340;");
        last.set(0, 100);
        due("down in HOUR 23 only", last.hours(0, 0), 0x800000);
        due("how often", last.hours(0, 1), 1);
    }

    @Holds(says = "HOURS one behind another from 0 on, by their WARMTH, THUMB 0, BUBBLE, LOAD as now: he is at the top first;")
    static void hoursByPressOfTopAndFloor() {
        // 200 * 250 by 1000 is just 50: WEIGHT 0, and 1 by any more PRESS
        due("at the top", bottle("warm 250;diver 50 200;").hours(0, 0), 0);
        // down by 250; 195 * 282 by 1100 is 49: WEIGHT 0, and -1 by any less PRESS
        due("on the floor", bottle("warm 282;hour 0 250;diver 49 195;").hours(0, 0), 0xFFFFFF);
        // down by 250; 200 * 330 by 1100 is just 60: WEIGHT -1, and 0 by any more PRESS
        due("up from the floor", bottle("warm 330;hour 0 250;diver 59 200;").hours(0, 0), 1);
    }

    @Holds(says = "HOURS one behind another from 0 on, by their WARMTH, THUMB 0, BUBBLE, LOAD as now: he is at the top first;")
    static void hoursWithALoad() {
        DiverBottle x = bottle("height 10;ring 6;diver 100 360 hook;");
        due("100 less 105480 by 1000", x.hours(0, 0), 0);
        x.thumb(500);
        due("down", x.go(99), 1);
        // 106 less 105 at the top; 106 less 104 on the floor
        due("with LOAD", x.hours(0, 0), 0xFFFFFF);
    }

    @Holds(says = "at an HOUR when his WEIGHT at the top is above 0 he goes down; when it is below 0 on the floor he comes up; else he stays.")
    static void hoursAtWeightZero() {
        // on the floor WEIGHT is 0 by 324 (110160 by 1100), 0 by 326 (110840), -1 by 327 (111180)
        DiverBottle x = bottle("warm 295;hour 1 294;hour 3 324;hour 4 326;hour 6 327;diver 100 340;");
        due("WEIGHT 0 at the top stays, 0 on the floor stays", x.hours(0, 0), 0b0111110);
        due("how often", x.hours(0, 1), 2);
    }

    @Holds(says = "at an HOUR when his WEIGHT at the top is above 0 he goes down; when it is below 0 on the floor he comes up; else he stays.")
    static void hoursOneWayEach() {
        DiverBottle x = bottle("salt 100 99;diver 50 0;");
        due("heavy above, light below: every other HOUR", x.hours(0, 0), 0x555555);
        due("how often", x.hours(0, 1), 24);
    }

    // ---- TRIPS

    @Holds(says = "TRIPS without a HOOK: each one takes LEAK, and he comes up, if his WEIGHT on the floor is below 0 with THUMB 0.")
    static void tripsTakeLeakFirst() {
        // on the floor 380 weighs -1 (111340 by 1100), 379 weighs 0
        DiverBottle x = bottle("diver 100 385 leak 5;diver 100 385 leak 6;diver 100 380;diver 100 379;diver 100 390 leak 5;");
        x.thumb(500);
        int[] trips = {1, 0, 999, 0, 2};
        for (int k = 0; k < 5; k++) due("trips(" + k + ")", x.trips(k), trips[k]);
    }

    @Holds(says = "TRIPS without a HOOK: each one takes LEAK, and he comes up, if his WEIGHT on the floor is below 0 with THUMB 0.")
    static void tripsByPressOfTheFloor() {
        // 220 * 250 by 1100 is just 50: WEIGHT -1, and 0 by any more PRESS
        due("WEIGHT -1", bottle("warm 250;diver 49 220;").trips(0), 999);
        // 174 * 293 by 1001 is 50, by 1000 too, by 999 it is 51
        due("WEIGHT 0", bottle("air 990;height 10;diver 50 174;").trips(0), 0);
    }

    @Holds(says = "TRIPS without a HOOK: each one takes LEAK, and he comes up, if his WEIGHT on the floor is below 0 with THUMB 0.")
    static void tripsTakeNoRing() {
        DiverBottle x = bottle("ring 999;diver 100 385 leak 5 hook;");
        due("trips(0)", x.trips(0), 1);
        due("now(4)", x.now(4), 1);
        due("diver(0, 1)", x.diver(0, 1), 385);
    }

    // ---- a BLADDER

    @Holds(says = "A BLADDER: the least BUBBLE with which WEIGHT at a DEPTH, THUMB 0, LOAD as now, is 0 or below (9999 at most),")
    static void theLeastBubble() {
        // 341 weighs 1 at the top, 342 weighs 0
        DiverBottle x = bottle("ring 9;diver 100 0 hook;");
        x.thumb(500);
        due("at the top", x.bladder(0, 100, 0, 1), 342);
        due("on the floor: 376 * 293 is 110168", x.bladder(0, 0, 100, 1), 376);
        due("none is needed", bottle("salt 0 50;diver 50 0;").bladder(0, 0, 0, 1), 0);
        due("the least is 1 and more", bottle("salt 0 49;diver 50 0;").bladder(0, 0, 0, 1), 4);
        x.go(999);
        due("LOAD", x.diver(0, 5), 9);
        due("with LOAD: 109000 by 293 is above 372", x.bladder(0, 0, 0, 1), 373);
    }

    @Holds(says = "A BLADDER: the least BUBBLE with which WEIGHT at a DEPTH, THUMB 0, LOAD as now, is 0 or below (9999 at most),")
    static void bubbleOf9999() {
        // 1962 * 1274 by 250 is above 9998, 1962 * 1275 by 250 above 9999
        DiverBottle x = bottle("air 1200;warm 250;ring 963;diver 999 0 hook;");
        x.go(999);
        due("LOAD", x.diver(0, 5), 963);
        due("9999 is enough", x.bladder(0, 74, 74, 1), 9999);
        due("9999 is not enough", x.bladder(0, 74, 75, 1), NONE);
        due("9999 is not enough for TICKS", x.bladder(0, 74, 75, 0), NONE);
        due("9999 was not enough where he comes from", x.bladder(0, 75, 74, 0), NONE);
    }

    @Holds(says = "by RATE each TICK.")
    static void rateEachTick() {
        // 478 at the top, 526 on the floor
        DiverBottle x = bottle("diver 140 0 rate 48;diver 140 0 rate 47;diver 140 0 rate 1;diver 140 0 rate 99;");
        int[] ticks = {1, 2, 48, 1};
        for (int k = 0; k < 4; k++) {
            due("down, " + k, x.bladder(k, 0, 100, 0), ticks[k]);
            due("up, " + k, x.bladder(k, 100, 0, 0), ticks[k]);
        }
    }

    // ---- BEATS

    @Holds(says = "BEATS of soda: he has HEAVY without LOAD, THUMB 0;")
    static void beatsWithoutLoadAndThumb() {
        DiverBottle x = bottle("height 10;ring 9;diver 100 0 hook;");
        int ticks = x.beats(0, 300, 5, 0), leaves = x.beats(0, 300, 5, 1);
        // 101 * 1010 by 293 is above 348: ten gains up to 350
        due("TICKS", ticks, 12);
        due("BUBBLE", leaves, 350);
        x.go(99);
        due("LOAD", x.diver(0, 5), 9);
        x.thumb(500);
        due("TICKS with LOAD and THUMB", x.beats(0, 300, 5, 0), ticks);
        due("BUBBLE with LOAD and THUMB", x.beats(0, 300, 5, 1), leaves);
    }

    @Holds(says = "at the top his BUBBLE is b, and if his WEIGHT there is above 0 he is on the floor in the next TICK;")
    static void beatsGoDownByWeightAboveZero() {
        // 341 weighs 1 at the top, 342 weighs 0; from 380 on he comes up from the floor
        DiverBottle x = bottle("diver 100 0;");
        due("b 341", x.beats(0, 341, 39, 0), 3);
        due("b 342", x.beats(0, 342, 39, 0), NONE);
        due("b 342, BUBBLE", x.beats(0, 342, 39, 1), NONE);
        due("b 0", x.beats(0, 0, 99, 1), 396);
        due("b 9999", x.beats(0, 9999, 1, 0), NONE);
        // 200 * 250 by 1000 is just 50: WEIGHT 0, and 1 by any more PRESS
        due("b 200", bottle("warm 250;diver 50 0;").beats(0, 200, 1, 0), NONE);
        due("b 199", bottle("warm 250;diver 50 0;").beats(0, 199, 99, 0), 3);
    }

    @Holds(says = "if it is below 0 on the floor he is at the top in the next TICK, else that TICK adds gain to his BUBBLE (9999 at most).")
    static void beatsComeUpByWeightBelowZero() {
        // 379 weighs 0 on the floor, 380 weighs -1
        DiverBottle x = bottle("diver 100 0;");
        due("up to 379, one more: TICKS", x.beats(0, 340, 39, 0), 4);
        due("up to 379, one more: BUBBLE", x.beats(0, 340, 39, 1), 418);
        due("up to 380: TICKS", x.beats(0, 340, 40, 0), 3);
        due("up to 380: BUBBLE", x.beats(0, 340, 40, 1), 380);
        DiverBottle salt = bottle("salt 100 99;diver 50 0;");
        due("light on the floor at once: TICKS", salt.beats(0, 0, 1, 0), 2);
        due("light on the floor at once: BUBBLE", salt.beats(0, 0, 1, 1), 0);
        due("lighter than there is need of: TICKS", salt.beats(0, 3, 1, 0), 2);
        due("lighter than there is need of: BUBBLE", salt.beats(0, 3, 1, 1), 3);
        // the heaviest in the coldest and deepest needs 5600 of the 9999: 1000 * 1400 by 250
        DiverBottle most = bottle("air 1200;height 200;warm 250;diver 999 0;");
        due("the greatest BUBBLE there is need of", most.beats(0, 0, 1, 1), 5600);
        due("its TICKS", most.beats(0, 0, 1, 0), 5602);
    }
}
