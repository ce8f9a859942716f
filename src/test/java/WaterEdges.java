import java.util.function.IntUnaryOperator;

/**
 * 'Terms': THUMB, PRESS, VOLUME, WEIGHT, a TICK, the DEPTHS and THUMBS by WEIGHT, SEEN, SHEETS.
 *
 * A DIVER without a BUBBLE weighs the same at all DEPTHS but for the salt; in salt from DEPTH 0 on he may be light.
 */
final class WaterEdges {
    private static final int BAD = Check.BAD, NONE = Check.NONE, NO_WEIGHT = Check.NO_WEIGHT;
    /** From a DEPTH he goes 64 down in the first TICK: 65 less 65 by 64. */
    private static final String DOWN_64 = "height 10;drag 64;";
    /** By THUMB 500 he goes down, by THUMB 0 he comes up, with THE RING and without it. */
    private static final String FETCHER = "height 10;ring 1;diver 100 360 hook;";

    private WaterEdges() {
    }

    private static void due(String call, long got, long want) {
        Check.due(call, got, want);
    }

    private static void bounds(String call, IntUnaryOperator ask, int least, int most, int refused) {
        Check.bounds(call, ask, least, most, refused);
    }

    private static DiverBottle bottle(String text) {
        return Check.bottle(text);
    }

    // ---- THUMB, PRESS, VOLUME, WEIGHT

    @Holds(says = "THUMB: 0 to 500.")
    static void thumbs() {
        DiverBottle x = bottle("diver 100 0;");
        bounds("thumb(v)", v -> x.thumb(v), 0, 500, BAD);
        bounds("weighs(0, 0, thumb)", v -> x.weighs(0, 0, v), 0, 500, NO_WEIGHT);
        bounds("turning(0, thumb)", v -> x.turning(0, v), 0, 500, BAD);
        bounds("holding(0, thumb)", v -> x.holding(0, v), 0, 500, BAD);
        bounds("bubbles(5, thumb, 0)", v -> x.bubbles(5, v, 0), 0, 500, BAD);
        bounds("atThumb(5, thumb, 0)", v -> x.atThumb(5, v, 0), 0, 500, BAD);
        bounds("hold(0, 5, t, 0, 1, 1, 1)", v -> x.hold(0, 5, v, 0, 1, 1, 1), 0, 500, BAD);
        bounds("late(0, 5, t, 1, 1)", v -> x.late(0, 5, v, 1, 1), 0, 500, BAD);
        bounds("step(0, 5, t, 0, 1, 0)", v -> x.step(0, 5, v, 0, 1, 0), 0, 500, BAD);
        bounds("saw(thumb, 0, true)", v -> x.saw(v, 0, true), 0, 500, BAD);
        x.sheet(0, 2, 3);
        bounds("read of a thumb", v -> {
            x.lay(0, 0, v);
            return x.read(0, 2, 0, 1);
        }, 0, 500, -20);
    }

    @Holds(says = "PRESS at a DEPTH: air, THUMB and DEPTH, summed.")
    static void leastAndGreatestPress() {
        due("the least", bottle("air 800;height 200;").press(0), 800);
        DiverBottle x = bottle("air 1200;height 200;");
        x.thumb(500);
        due("the greatest", x.press(200), 1900);
        due("press(0)", x.press(0), 1700);
    }

    @Holds(says = "VOLUME of a BUBBLE: BUBBLE times warm by PRESS, divided down.")
    static void volumes() {
        DiverBottle x = bottle("diver 999 0;diver 999 3;diver 999 4;warm 250;");
        due("of BUBBLE 0", x.weighs(0, 0, 0), 999);
        due("of 750 by 1000", x.weighs(1, 0, 0), 999);
        due("of 1000 by 1000", x.weighs(2, 0, 0), 998);
        due("of 1000 by 1001, one deeper", x.weighs(2, 1, 0), 999);
        due("of 1000 by 1001, one THUMB more", x.weighs(2, 0, 1), 999);
        x.warm(251);
        due("of 1004 by 1001", x.weighs(2, 1, 0), 998);
        due("the greatest, 9999 * 350 by 800", bottle("air 800;warm 350;diver 1 9999;").weighs(0, 0, 0), 1 - 4374);
        due("9999 * 250 by 1900", bottle("air 1200;height 200;warm 250;diver 1 9999;").weighs(0, 200, 500), 1 - 1315);
    }

    @Holds(says = "WEIGHT of a DIVER at a DEPTH: HEAVY and his LOAD, less VOLUME, less more (at salt and deeper).")
    static void saltBegins() {
        DiverBottle x = bottle("salt 60 9;diver 100 0;");
        int[] depths = {0, 59, 60, 61, 100}, weights = {100, 100, 91, 91, 91};
        for (int i = 0; i < 5; i++) due("weighs at " + depths[i], x.weighs(0, depths[i], 0), weights[i]);
        due("salt 0, at the top", bottle("salt 0 99;diver 1 0;").weighs(0, 0, 0), -98);
        DiverBottle floor = bottle("salt 100 9;diver 100 0;");
        due("salt at height, one above", floor.weighs(0, 99, 0), 100);
        due("salt at height", floor.weighs(0, 100, 0), 91);
        due("salt below height", bottle("salt 101 9;diver 100 0;").weighs(0, 100, 0), 100);
        due("salt 201 is nowhere", bottle("height 200;salt 201 9;diver 100 0;").weighs(0, 200, 0), 100);
        due("salt 200", bottle("height 200;salt 200 9;diver 100 0;").weighs(0, 200, 0), 91);
    }

    @Holds(says = "WEIGHT of a DIVER at a DEPTH: HEAVY and his LOAD, less VOLUME, less more (at salt and deeper).")
    static void loadWeighs() {
        DiverBottle x = bottle(DOWN_64 + "ring 999;diver 999 0 hook;");
        due("without LOAD", x.weighs(0, 0, 0), 999);
        due("go(99)", x.go(99), 1);
        due("with the greatest LOAD", x.weighs(0, 0, 0), 1998);
        due("where he is", x.diver(0, 9), 1998);
    }

    // ---- a TICK

    @Holds(says = "A TICK: DIVER by DIVER:")
    static void diverByDiver() {
        // both come to the floor in one TICK: the first of them has THE RING
        DiverBottle x = bottle(DOWN_64 + "ring 5;diver 65 0;diver 65 0 hook;diver 65 0 hook;");
        for (int k = 0; k < 3; k++) x.set(k, 9);
        due("go(1)", x.go(1), 7);
        int[] loads = {0, 5, 0};
        for (int k = 0; k < 3; k++) due("diver(" + k + ", 5)", x.diver(k, 5), loads[k]);
    }

    @Holds(says = "his PACE is more by his WEIGHT where he is (DEPTH: his FINE DEPTH by 64, divided down);")
    static void depthOfAFineDepth() {
        // at FINE DEPTH 63 he is at DEPTH 0, without salt; at 64 in it
        DiverBottle above = bottle("drag 64;salt 1 99;diver 63 0;"), below = bottle("drag 64;salt 1 99;diver 65 0;");
        above.go(1);
        due("FINE DEPTH", above.diver(0, 7), 63);
        due("DEPTH", above.diver(0, 6), 0);
        due("WEIGHT", above.diver(0, 9), 63);
        above.go(1);
        due("PACE 63 and 63, less 1", above.diver(0, 8), 125);
        below.go(1);
        due("FINE DEPTH", below.diver(0, 7), 64);
        due("DEPTH", below.diver(0, 6), 1);
        due("WEIGHT", below.diver(0, 9), -34);
        below.go(1);
        due("PACE 64 less 34", below.diver(0, 8), 30);
    }

    /** PACE behind one TICK of a DIVER in the middle. */
    private static int paceBy(int weight, int drag) {
        DiverBottle x = bottle("drag " + drag + ";salt 0 99;diver " + (weight + 99) + " 0;");
        x.set(0, 50);
        x.go(1);
        return x.diver(0, 8);
    }

    @Holds(says = "then less by PACE by drag, cut;")
    static void paceByDrag() {
        int[] weights = {0, 1, 63, 64, 65, -1, -63, -64, -65};
        int[] most = {0, 1, 63, 63, 64, -1, -63, -63, -64};
        int[] two = {0, 1, 32, 32, 33, -1, -32, -32, -33};
        for (int i = 0; i < weights.length; i++) {
            due("drag 64, WEIGHT " + weights[i], paceBy(weights[i], 64), most[i]);
            due("drag 2, WEIGHT " + weights[i], paceBy(weights[i], 2), two[i]);
            due("drag 1, WEIGHT " + weights[i], paceBy(weights[i], 1), 0);
        }
    }

    @Holds(says = "then less by PACE by drag, cut;")
    static void paceOfBeforeIsInWhatDragTakes() {
        // 7; 14 less 1; 20 less 2; 25 less 3
        DiverBottle x = bottle("diver 7 0;");
        int[] paces = {7, 13, 18, 22};
        for (int i = 0; i < 4; i++) {
            x.go(1);
            due("PACE behind TICK " + (i + 1), x.diver(0, 8), paces[i]);
        }
    }

    @Holds(says = "his FINE DEPTH is more by his PACE;")
    static void fineDepthIsMoreByThePaceThatIsNew() {
        DiverBottle x = bottle("diver 7 0;");
        int[] fines = {7, 20, 38, 60};
        for (int i = 0; i < 4; i++) {
            x.go(1);
            due("FINE DEPTH behind TICK " + (i + 1), x.diver(0, 7), fines[i]);
        }
        DiverBottle still = bottle("salt 0 50;diver 50 0;");
        still.set(0, 5);
        still.go(999);
        due("WEIGHT 0", still.diver(0, 7), 320);
    }

    @Holds(says = "above 0 he is at 0, below height (times 64) he is there:")
    static void beyondTheTopAndTheFloor() {
        // drag 64: WEIGHTS 64, 65, 66 give PACES 63, 64, 65
        int[] downs = {64, 65, 66}, downFines = {639, 640, 640};
        for (int i = 0; i < 3; i++) {
            DiverBottle x = bottle(DOWN_64 + "diver " + downs[i] + " 0;");
            x.set(0, 9);
            due("on the floor by WEIGHT " + downs[i], x.go(1), i == 0 ? 0 : 1);
            due("FINE DEPTH by WEIGHT " + downs[i], x.diver(0, 7), downFines[i]);
        }
        int[] ups = {35, 34, 33}, upFines = {1, 0, 0};
        for (int i = 0; i < 3; i++) {
            DiverBottle x = bottle(DOWN_64 + "salt 0 99;diver " + ups[i] + " 0;");
            x.set(0, 1);
            x.go(1);
            due("at the top by HEAVY " + ups[i], x.now(2), i == 0 ? 0 : 1);
            due("FINE DEPTH by HEAVY " + ups[i], x.diver(0, 7), upFines[i]);
        }
        DiverBottle deep = bottle("height 200;drag 64;diver 999 0;");
        due("go(999)", deep.go(999), 1);
        due("the deepest FINE DEPTH", deep.diver(0, 7), 12800);
        due("its DEPTH", deep.diver(0, 6), 200);
    }

    @Holds(says = "his PACE is 0 then (also just there, if PACE goes on that way).")
    static void paceIsZeroThere() {
        int[] downs = {64, 65, 66}, downPaces = {63, 0, 0};
        for (int i = 0; i < 3; i++) {
            DiverBottle x = bottle(DOWN_64 + "diver " + downs[i] + " 0;");
            x.set(0, 9);
            x.go(1);
            due("PACE by WEIGHT " + downs[i], x.diver(0, 8), downPaces[i]);
        }
        int[] ups = {35, 34, 33}, upPaces = {-63, 0, 0};
        for (int i = 0; i < 3; i++) {
            DiverBottle x = bottle(DOWN_64 + "salt 0 99;diver " + ups[i] + " 0;");
            x.set(0, 1);
            x.go(1);
            due("PACE by HEAVY " + ups[i], x.diver(0, 8), upPaces[i]);
        }
        DiverBottle rests = bottle("diver 5 0;diver 5 9999;");
        rests.set(0, 100);
        rests.go(3);
        due("PACE of one who rests on the floor", rests.diver(0, 8), 0);
        due("PACE of one who rests at the top", rests.diver(1, 8), 0);
        due("FINE DEPTH of one who rests at the top", rests.diver(1, 7), 0);
        // WEIGHTS of 1 and -1 are enough
        DiverBottle one = bottle("diver 1 0;"), less = bottle("salt 0 2;diver 1 0;");
        one.set(0, 100);
        one.go(1);
        due("FINE DEPTH by WEIGHT 1", one.diver(0, 7), 6400);
        due("PACE by WEIGHT 1", one.diver(0, 8), 0);
        less.go(1);
        due("FINE DEPTH by WEIGHT -1", less.diver(0, 7), 0);
        due("PACE by WEIGHT -1", less.diver(0, 8), 0);
    }

    @Holds(says = "his PACE is 0 then (also just there, if PACE goes on that way).")
    static void whoLeavesTheFloorOrTheTopKeepsHisPace() {
        DiverBottle up = bottle("height 10;salt 0 99;diver 94 0;"), down = bottle("diver 5 0;");
        up.set(0, 10);
        up.go(1);
        due("FINE DEPTH from the floor", up.diver(0, 7), 635);
        due("PACE from the floor", up.diver(0, 8), -5);
        down.go(1);
        due("FINE DEPTH from the top", down.diver(0, 7), 5);
        due("PACE from the top", down.diver(0, 8), 5);
    }

    @Holds(says = "Who comes to the floor (he was not there): his BUBBLE is less by LEAK (0 at least);")
    static void bubbleIsZeroAtLeast() {
        // a BUBBLE of 3 has no VOLUME
        int[] leaks = {0, 1, 2, 3, 4, 99}, rest = {3, 2, 1, 0, 0, 0};
        for (int i = 0; i < leaks.length; i++) {
            DiverBottle x = bottle(DOWN_64 + "diver 65 3 leak " + leaks[i] + ";");
            x.set(0, 9);
            due("go(1)", x.go(1), 1);
            due("BUBBLE 3 by LEAK " + leaks[i], x.diver(0, 1), rest[i]);
        }
    }

    @Holds(says = "Who comes to the floor (he was not there): his BUBBLE is less by LEAK (0 at least);")
    static void whoWasThereDoesNotLeak() {
        DiverBottle x = bottle(DOWN_64 + "diver 64 3 leak 1;");
        x.set(0, 9);
        x.go(1);
        due("one FINE DEPTH above", x.diver(0, 1), 3);
        x.go(1);
        due("he comes", x.diver(0, 1), 2);
        x.go(99);
        due("he stays", x.diver(0, 1), 2);
        x.set(0, 10);
        x.go(1);
        due("he is set there", x.diver(0, 1), 2);
        x.set(0, 9);
        x.go(2);
        due("he comes once more", x.diver(0, 1), 1);
    }

    @Holds(says = "if he has a HOOK and THE RING is there, it is his LOAD and there no more.")
    static void hookAndRing() {
        DiverBottle x = bottle(DOWN_64 + "ring 5;diver 65 0 hook;");
        x.set(0, 9);
        due("now(4) before", x.now(4), 1);
        x.go(1);
        due("his LOAD", x.diver(0, 5), 5);
        due("now(4)", x.now(4), 0);
    }

    @Holds(says = "if he has a HOOK and THE RING is there, it is his LOAD and there no more.")
    static void noHookOrNoRing() {
        DiverBottle noHook = bottle(DOWN_64 + "ring 5;diver 65 0;"), noRing = bottle(DOWN_64 + "diver 65 0 hook;");
        noHook.go(99);
        due("without a HOOK, LOAD", noHook.diver(0, 5), 0);
        due("without a HOOK, now(4)", noHook.now(4), 1);
        noRing.go(99);
        due("without a RING, LOAD", noRing.diver(0, 5), 0);
        // THE RING is another's: he who comes later has none
        DiverBottle later = bottle(DOWN_64 + "ring 5;diver 65 0 hook;diver 65 0 hook;");
        later.set(1, 9);
        later.go(1);
        due("the second came first", later.diver(1, 5), 5);
        later.go(99);
        due("the first came later", later.diver(0, 5), 0);
        // THE RING is there again, but he does not come: he is there
        later.drop();
        later.go(9);
        due("who is there takes none", later.now(4), 1);
    }

    @Holds(says = "Who comes to the top (he was not there) with a LOAD has none then: THE RING is FETCHED.")
    static void theRingIsFetched() {
        DiverBottle x = bottle(FETCHER);
        x.thumb(500);
        due("down", x.go(99), 1);
        due("LOAD", x.diver(0, 5), 1);
        x.thumb(0);
        due("not FETCHED yet", x.now(5), 0);
        x.go(300);
        due("at the top", x.now(2), 1);
        due("LOAD at the top", x.diver(0, 5), 0);
        due("FETCHED", x.now(5), 1);
        due("it is not on the floor", x.now(4), 0);
        x.go(99);
        due("FETCHED once", x.now(5), 1);
    }

    @Holds(says = "Who comes to the top (he was not there) with a LOAD has none then: THE RING is FETCHED.")
    static void whoWasAtTheTopOrHasNoLoadFetchesNothing() {
        DiverBottle x = bottle(FETCHER);
        x.set(0, 1);
        x.go(99);
        due("at the top", x.now(2), 1);
        due("without LOAD", x.now(5), 0);
        x.thumb(500);
        x.go(99);
        due("LOAD", x.diver(0, 5), 1);
        x.thumb(0);
        x.set(0, 0);
        x.go(99);
        due("he was there: LOAD", x.diver(0, 5), 1);
        due("he was there: FETCHED", x.now(5), 0);
        x.set(0, 1);
        x.go(99);
        due("he comes: FETCHED", x.now(5), 1);
    }

    // ---- DEPTHS and THUMBS by WEIGHT

    @Holds(says = "Asked for a DEPTH, a THUMB, what he weighs with, WEIGHT is by his BUBBLE, LOAD now.")
    static void bubbleAndLoadNow() {
        // on the floor by THUMB 500 he loses 20 of 380 and has 3 to carry: 103 less 105480 by PRESS
        DiverBottle x = bottle("height 10;ring 3;diver 100 380 hook leak 20;");
        due("weighs before", x.weighs(0, 0, 0), 100 - 111);
        due("turning before", x.turning(0, 0), NONE);
        due("goesAt before", x.goesAt(0), 114);
        due("back before", x.back(0), 10);
        x.thumb(500);
        due("down", x.go(99), 1);
        due("weighs", x.weighs(0, 0, 0), 103 - 105);
        due("turning: 105480 by 1014 is 104, by 1015 is 103", x.turning(0, 14), 1);
        due("goesAt: 105480 by 1025 is 102", x.goesAt(0), 25);
        due("order(0)", x.order(0), 0);
        due("back", x.back(0), 10);
    }

    @Holds(says = "TURNING DEPTH by a THUMB: the first DEPTH at which his WEIGHT is 0 and more.")
    static void turningDepths() {
        // 146500 by 1039 is 141, by 1040 is 140
        DiverBottle x = bottle("diver 140 500;");
        due("WEIGHT one above", x.weighs(0, 39, 0), -1);
        due("WEIGHT there", x.weighs(0, 40, 0), 0);
        due("turning(0, 0)", x.turning(0, 0), 40);
        due("turning(0, 39)", x.turning(0, 39), 1);
        due("at the top", x.turning(0, 40), 0);
        due("at the top, far above 0", x.turning(0, 500), 0);
        due("on the floor", bottle("height 40;diver 140 500;").turning(0, 0), 40);
        due("below the floor", bottle("height 39;diver 140 500;").turning(0, 0), NONE);
    }

    @Holds(says = "HOLDING DEPTH: the first DEPTH (1 and more) at which his WEIGHT is 0 and less, one DEPTH above being more than 0.")
    static void holdingDepths() {
        due("at 1", bottle("salt 1 9;diver 9 0;").holding(0, 0), 1);
        due("WEIGHT 0 there", bottle("salt 50 9;diver 9 0;").holding(0, 0), 50);
        due("WEIGHT 1 there", bottle("salt 50 9;diver 10 0;").holding(0, 0), NONE);
        due("WEIGHT below 0 there", bottle("salt 50 9;diver 8 0;").holding(0, 0), 50);
        due("on the floor", bottle("height 10;salt 10 9;diver 9 0;").holding(0, 0), 10);
        due("below the floor", bottle("height 10;salt 11 9;diver 9 0;").holding(0, 0), NONE);
        due("DEPTH 0 is none", bottle("salt 0 9;diver 9 0;").holding(0, 0), NONE);
        // at the top he weighs 0 by THUMB 46, 1 by THUMB 47
        due("0 at the top", bottle("salt 1 99;diver 140 500;").holding(0, 46), NONE);
        due("1 at the top", bottle("salt 1 99;diver 140 500;").holding(0, 47), 1);
        // one DEPTH above it is 0: 146500 by 1040 is 140, and salt from 41 on
        due("0 one DEPTH above", bottle("salt 41 9;diver 140 500;").holding(0, 0), NONE);
        due("WEIGHT at 46 is 0", bottle("diver 140 500;").weighs(0, 46, 0), 0);
        due("1 one DEPTH above", bottle("salt 48 9;diver 140 500;").holding(0, 0), 48);
        due("0 one DEPTH above, still", bottle("salt 47 9;diver 140 500;").holding(0, 0), NONE);
    }

    @Holds(says = "GOES AT: the least THUMB with which his WEIGHT at DEPTH 0 is above 0.")
    static void goesAt() {
        DiverBottle x = bottle("diver 140 500;");
        due("WEIGHT by 46", x.weighs(0, 0, 46), 0);
        due("WEIGHT by 47", x.weighs(0, 0, 47), 1);
        due("goesAt(0)", x.goesAt(0), 47);
        due("by 0", bottle("diver 1 0;").goesAt(0), 0);
        due("by 0, WEIGHT 1", bottle("diver 100 341;").goesAt(0), 0);
        due("by 1 and more, WEIGHT 0", bottle("diver 100 342;").goesAt(0), 3);
        due("by 500: 439207 by 1500 is 292", bottle("diver 293 1499;").goesAt(0), 500);
        due("by 501: 439500 by 1500 is 293", bottle("diver 293 1500;").goesAt(0), NONE);
        due("WEIGHT 0 without a BUBBLE", bottle("salt 0 50;diver 50 0;").goesAt(0), NONE);
        due("salt from 1 on is not at DEPTH 0", bottle("salt 1 99;diver 50 0;").goesAt(0), 0);
    }

    @Holds(says = "A BUBBLE (for a HEAVY without LOAD) COMES BACK: with THUMB 0 WEIGHT is below 0 at DEPTH 0 and at height;")
    static void comesBack() {
        // at height 100: 379 * 293 by 1100 is 100, 380 * 293 by 1100 is 101
        DiverBottle x = bottle("diver 100 379;diver 100 380;");
        due("379 weighs 0 at height", x.weighs(0, 100, 0), 0);
        due("380 weighs -1 at height", x.weighs(1, 100, 0), -1);
        x.thumb(500);
        due("the least that comes back", x.bubbles(100, 500, 1), 380);
        // lighter at height: 344 * 293 by 1000 is 100, 345 * 293 by 1000 is 101
        DiverBottle salt = bottle("salt 100 99;diver 100 344;diver 100 345;");
        due("344 weighs 0 at DEPTH 0", salt.weighs(0, 0, 0), 0);
        due("345 weighs -1 at DEPTH 0", salt.weighs(1, 0, 0), -1);
        due("the least that comes back, salt at height", salt.bubbles(100, 500, 1), 345);
        DiverBottle loaded = bottle(DOWN_64 + "ring 9;diver 100 0 hook;");
        int bare = loaded.bubbles(100, 500, 1);
        loaded.go(99);
        due("LOAD", loaded.diver(0, 5), 9);
        due("without LOAD", loaded.bubbles(100, 500, 1), bare);
    }

    @Holds(says = "it GOES, by a THUMB, if WEIGHT with it is above 0 at DEPTH 0.")
    static void goesByAThumb() {
        // by THUMB 500: 511 * 293 by 1500 is 99, 512 * 293 by 1500 is 100
        DiverBottle x = bottle("diver 100 511;diver 100 512;");
        due("511 weighs 1", x.weighs(0, 0, 500), 1);
        due("512 weighs 0", x.weighs(1, 0, 500), 0);
        due("the greatest that goes", x.bubbles(100, 500, 2), 511);
        due("by THUMB 0 none that comes back", x.bubbles(100, 0, 0), 0);
    }

    // ---- SEEN

    @Holds(says = "SEEN: THUMB, DEPTH, whether a DIVER sank there (WEIGHT above 0) or not.")
    static void whoWeighsNothingDidNotSink() {
        // WEIGHTS 1, 0, -1 at the top
        DiverBottle x = bottle("diver 100 341;diver 100 342;diver 100 345;");
        int[] weights = {1, 0, -1};
        for (int k = 0; k < 3; k++) due("weighs(" + k + ", 0, 0)", x.weighs(k, 0, 0), weights[k]);
        x.saw(0, 0, true);
        due("who sank", x.who(), 1);
        x.forget();
        x.saw(0, 0, false);
        due("who did not", x.who(), 6);
    }

    @Holds(says = "WHAT IT CAN BE: BUBBLES 0 to 9999 of a HEAVY (no LOAD) by which all SEEN is so.")
    static void bubblesThatCanBe() {
        DiverBottle x = bottle(DOWN_64 + "ring 9;diver 100 0 hook;");
        due("nothing SEEN: how many", x.fits(100, 0), 10000);
        due("nothing SEEN: the least", x.fits(100, 1), 0);
        due("nothing SEEN: the greatest", x.fits(100, 2), 9999);
        x.go(99);
        due("LOAD", x.diver(0, 5), 9);
        x.saw(0, 0, true);
        due("all SEEN: the greatest", x.fits(100, 2), 341);
        x.saw(500, 0, true);
        due("all SEEN: it is so already", x.fits(100, 2), 341);
        x.saw(0, 10, false);
        due("all SEEN: 100 * 1010 by 293 is above 344", x.fits(100, 0), 0);
        x.forget();
        x.saw(0, 10, true);
        due("by its DEPTH", x.fits(100, 2), 344);
        x.forget();
        x.saw(7, 10, false);
        due("by its THUMB and its DEPTH: 101700 by 293 is above 347", x.fits(100, 1), 348);
    }

    // ---- SHEETS

    @Holds(says = "SHEETS 0 to 3 are rows of BYTES (lane 0), SHORTS (1), INTS (2) with 0 to 40 CELLS, or nothing (at first).")
    static void sheetsLanesAndCells() {
        DiverBottle x = new DiverBottle();
        for (int k = 0; k < 4; k++) due("nothing at first, " + k, x.lay(k, 0, 0), -11);
        bounds("sheet(k, 0, 1)", k -> x.sheet(k, 0, 1), 0, 3, BAD);
        bounds("sheet(0, lane, 1)", lane -> x.sheet(0, lane, 1), 0, 2, BAD);
        due("0 CELLS", x.sheet(0, 2, 0), 1);
        due("lay(0, 0, 0)", x.lay(0, 0, 0), -12);
        due("40 CELLS", x.sheet(0, 2, 40), 1);
        due("lay(0, 39, 0)", x.lay(0, 39, 0), 1);
        due("lay(0, 40, 0)", x.lay(0, 40, 0), -12);
        due("41 CELLS", x.sheet(0, 2, 41), BAD);
    }

    /** What a THUMB of v becomes in a CELL of a lane, if it is one; -20 if not. */
    private static int thumbLaid(int lane, int v) {
        DiverBottle x = new DiverBottle();
        x.sheet(0, lane, 3);
        x.lay(0, 0, v);
        x.lay(0, 2, 1);
        int came = x.read(0, lane, 0, 1);
        if (came != 1) return came;
        // of a HEAVY 999 each THUMB more lets three BUBBLES more sink
        int greatest = x.fits(999, 2);
        for (int thumb = 0; thumb <= 500; thumb++) {
            DiverBottle y = new DiverBottle();
            y.saw(thumb, 0, true);
            if (y.fits(999, 2) == greatest) return thumb;
        }
        return NONE;
    }

    @Holds(says = "rows of BYTES (lane 0), SHORTS (1), INTS (2)")
    static void whatALaneCanHold() {
        int[] bytes = {0, 127, 128, 255, 256, -256, 383, -129}, inBytes = {0, 127, -20, -20, 0, 0, 127, 127};
        for (int i = 0; i < bytes.length; i++) due("BYTE " + bytes[i], thumbLaid(0, bytes[i]), inBytes[i]);
        int[] shorts = {256, 500, 501, 32768, 65535, 65536, 66036, -65536}, inShorts = {256, 500, -20, -20, -20, 0, 500, 0};
        for (int i = 0; i < shorts.length; i++) due("SHORT " + shorts[i], thumbLaid(1, shorts[i]), inShorts[i]);
        int[] ints = {256, 500, 501, 65536, 66036, -65536}, inInts = {256, 500, -20, -20, -20, -20};
        for (int i = 0; i < ints.length; i++) due("INT " + ints[i], thumbLaid(2, ints[i]), inInts[i]);
    }

    @Holds(says = "A FAULT is what the machine finds: 1 NULL (nothing), 2 INDEX, 3 CAST (another lane), 4 SIZE (below 0).")
    static void whatTheMachineFinds() {
        DiverBottle x = new DiverBottle();
        due("NULL", x.lay(0, 0, 0), -11);
        due("SIZE -1", x.sheet(0, 0, -1), -14);
        due("SIZE, the least", x.sheet(0, 0, Check.MIN), -14);
        due("SIZE 0 is none", x.sheet(0, 0, 0), 1);
        due("INDEX", x.lay(0, 0, 0), -12);
        due("read of another lane", x.read(0, 1, 0, 1), 0);
        due("CAST", x.torn(), 3);
    }
}
