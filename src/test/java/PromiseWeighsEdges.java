/** Promises 14 to 22: press, weighs, turning, holding, back, goesAt, order, apart, lifts. */
final class PromiseWeighsEdges {
    private static final int BAD = Check.BAD, NONE = Check.NONE, NO_WEIGHT = Check.NO_WEIGHT;

    private PromiseWeighsEdges() {
    }

    private static void due(String call, long got, long want) {
        Check.due(call, got, want);
    }

    private static DiverBottle bottle(String text) {
        return Check.bottle(text);
    }

    // ---- press, weighs

    @Holds(in = 14, says = "PRESS at a DEPTH.")
    static void press() {
        DiverBottle x = bottle("height 10;air 800;");
        due("press(0)", x.press(0), 800);
        due("press(10)", x.press(10), 810);
        x.thumb(500);
        due("press(10) by THUMB", x.press(10), 1310);
    }

    @Holds(in = 14, says = "BAD.")
    static void pressBad() {
        DiverBottle x = bottle("height 10;");
        Check.bounds("press(depth)", d -> x.press(d), 0, 10, BAD);
    }

    @Holds(in = 15, says = "WEIGHT of a DIVER at a DEPTH by a THUMB.")
    static void weighs() {
        DiverBottle x = bottle("diver 140 500;");
        x.thumb(77);
        x.set(0, 50);
        due("146500 by 1000", x.weighs(0, 0, 0), 140 - 146);
        due("146500 by 1100", x.weighs(0, 100, 0), 140 - 133);
        due("146500 by 1500", x.weighs(0, 0, 500), 140 - 97);
        due("146500 by 1600", x.weighs(0, 100, 500), 140 - 91);
    }

    @Holds(in = 15, says = "BAD -1000000.")
    static void weighsBad() {
        DiverBottle x = bottle("height 10;diver 1 0;");
        Check.bounds("weighs(k, 0, 0)", k -> x.weighs(k, 0, 0), 0, 0, NO_WEIGHT);
        Check.bounds("weighs(0, depth, 0)", d -> x.weighs(0, d, 0), 0, 10, NO_WEIGHT);
        Check.bounds("weighs(0, 0, thumb)", t -> x.weighs(0, 0, t), 0, 500, NO_WEIGHT);
    }

    // ---- turning, holding, back

    @Holds(in = 16, says = "TURNING DEPTH by a THUMB.")
    static void turning() {
        DiverBottle x = bottle("diver 140 500;");
        x.thumb(500);
        due("turning(0, 0)", x.turning(0, 0), 40);
        due("turning(0, 39)", x.turning(0, 39), 1);
        due("turning(0, 40)", x.turning(0, 40), 0);
        due("turning(0, 500)", x.turning(0, 500), 0);
    }

    @Holds(in = 16, says = "BAD;")
    static void turningBad() {
        DiverBottle x = bottle("diver 1 0;");
        Check.bounds("turning(k, 0)", k -> x.turning(k, 0), 0, 0, BAD);
        Check.bounds("turning(0, thumb)", t -> x.turning(0, t), 0, 500, BAD);
    }

    @Holds(in = 16, says = "NONE: there is none.")
    static void turningNone() {
        // 146500 by 1039 is 141, by 1040 is 140
        due("WEIGHT -1 on the floor", bottle("height 39;diver 140 500;").turning(0, 0), NONE);
        due("WEIGHT 0 on the floor", bottle("height 40;diver 140 500;").turning(0, 0), 40);
        due("far below 0", bottle("height 200;diver 1 9999;").turning(0, 500), NONE);
    }

    @Holds(in = 17, says = "HOLDING DEPTH by a THUMB.")
    static void holding() {
        // by THUMB 6 WEIGHT at 40 is 0, by 7 it is 1; the salt from 41 on
        DiverBottle x = bottle("salt 41 9;diver 140 500;");
        x.thumb(500);
        due("WEIGHT at 40 by 6", x.weighs(0, 40, 6), 0);
        due("holding(0, 6)", x.holding(0, 6), NONE);
        due("WEIGHT at 40 by 7", x.weighs(0, 40, 7), 1);
        due("holding(0, 7)", x.holding(0, 7), 41);
    }

    @Holds(in = 17, says = "BAD;")
    static void holdingBad() {
        DiverBottle x = bottle("salt 5 9;diver 1 0;");
        Check.bounds("holding(k, 0)", k -> x.holding(k, 0), 0, 0, BAD);
        Check.bounds("holding(0, thumb)", t -> x.holding(0, t), 0, 500, BAD);
    }

    @Holds(in = 17, says = "NONE.")
    static void holdingNone() {
        due("no salt", bottle("diver 9 0;").holding(0, 0), NONE);
        due("salt from the top on", bottle("salt 0 9;diver 5 0;").holding(0, 0), NONE);
        due("too heavy for the salt", bottle("salt 5 9;diver 10 0;").holding(0, 0), NONE);
        due("light above the salt", bottle("salt 5 9;diver 1 9999;").holding(0, 0), NONE);
    }

    @Holds(in = 18, says = "The deepest DEPTH from which he comes up to the top, THUMB 0 (WEIGHT below 0 there and at all DEPTHS above).")
    static void back() {
        // WEIGHT is -1 at 39, 0 at 40
        DiverBottle x = bottle("diver 140 500;");
        x.thumb(500);
        due("back(0)", x.back(0), 39);
        due("from the floor", bottle("height 39;diver 140 500;").back(0), 39);
        due("height 40", bottle("height 40;diver 140 500;").back(0), 39);
        // 100 less 345 * 293 by 1000 is -1, by 1001 is 0
        due("from the top only", bottle("diver 100 345;").back(0), 0);
        due("light again in the salt", bottle("salt 60 99;diver 140 500;").back(0), 39);
    }

    @Holds(in = 18, says = "BAD;")
    static void backBad() {
        DiverBottle x = bottle("diver 140 500;diver 1 0;");
        Check.bounds("back(k)", k -> x.back(k), 0, 1, BAD);
    }

    @Holds(in = 18, says = "NONE: from none.")
    static void backNone() {
        due("WEIGHT 0 at the top", bottle("diver 100 344;").back(0), NONE);
        due("WEIGHT 0 at the top: 50982 by 1000, by 999 it is 51", bottle("diver 50 174;").back(0), NONE);
        due("heavy", bottle("diver 100 0;").back(0), NONE);
        due("light in the salt only", bottle("salt 1 99;diver 50 0;").back(0), NONE);
    }

    // ---- goesAt, order, apart

    @Holds(in = 19, says = "GOES AT.")
    static void goesAt() {
        DiverBottle x = bottle("diver 1 0;diver 100 341;diver 100 342;diver 293 1499;");
        x.thumb(77);
        int[] thumbs = {0, 0, 3, 500};
        for (int k = 0; k < 4; k++) due("goesAt(" + k + ")", x.goesAt(k), thumbs[k]);
    }

    @Holds(in = 19, says = "BAD;")
    static void goesAtBad() {
        DiverBottle x = bottle("diver 140 500;diver 1 0;");
        Check.bounds("goesAt(k)", k -> x.goesAt(k), 0, 1, BAD);
    }

    @Holds(in = 19, says = "NONE: with no THUMB.")
    static void goesAtNone() {
        due("it would be 501", bottle("diver 293 1500;").goesAt(0), NONE);
        due("far", bottle("diver 1 9999;").goesAt(0), NONE);
        due("WEIGHT 0 by the salt", bottle("salt 0 9;diver 9 0;").goesAt(0), NONE);
        due("WEIGHT below 0 by the salt", bottle("salt 0 9;diver 8 0;").goesAt(0), NONE);
    }

    @Holds(in = 20, says = "DIVERS by GOES AT, of several by number, those that never go last: the i-th.")
    static void order() {
        // GOES AT: none, 47, 47, 0, none, 0
        DiverBottle x = bottle("diver 1 9999;diver 140 500;diver 140 500;diver 1 0;diver 1 9998;diver 2 0;");
        int[] line = {3, 5, 1, 2, 0, 4};
        for (int i = 0; i < 6; i++) due("order(" + i + ")", x.order(i), line[i]);
        DiverBottle never = bottle("diver 1 9999;diver 1 9998;");
        for (int i = 0; i < 2; i++) due("order(" + i + ") of those that never go", never.order(i), i);
        // GOES AT 500 and none
        DiverBottle last = bottle("diver 293 1500;diver 293 1499;");
        due("order(0), at 500", last.order(0), 1);
        due("order(1), never", last.order(1), 0);
    }

    @Holds(in = 20, says = "BAD.")
    static void orderBad() {
        DiverBottle none = new DiverBottle(), two = bottle("diver 1 9999;diver 1 0;");
        DiverBottle six = bottle("diver 1 1;".repeat(6));
        for (int i : new int[] {-1, 0, Check.MIN, Check.MAX}) due("order(" + i + ") of none", none.order(i), BAD);
        Check.bounds("order(i) of two", i -> two.order(i), 0, 1, BAD);
        Check.bounds("order(i) of six", i -> six.order(i), 0, 5, BAD);
    }

    @Holds(in = 21, says = "The least difference of GOES AT of two DIVERS that go.")
    static void apart() {
        // GOES AT: 0, 500; 47 and those; two at 47
        due("0 and 500", bottle("diver 1 0;diver 293 1499;").apart(), 500);
        due("500 and 0", bottle("diver 293 1499;diver 1 0;").apart(), 500);
        due("0, 500, 47", bottle("diver 1 0;diver 293 1499;diver 140 500;").apart(), 47);
        due("two alike", bottle("diver 140 500;diver 1 0;diver 140 500;").apart(), 0);
        due("one that never goes between", bottle("diver 140 500;diver 1 9999;diver 1 0;").apart(), 47);
        // 341 goes at 0, 342 at 3: the last two of six
        due("the last two of six", bottle("diver 293 1499;diver 140 600;diver 140 560;diver 140 520;diver 100 341;diver 100 342;").apart(), 3);
    }

    @Holds(in = 21, says = "NONE: there are no two.")
    static void apartNone() {
        due("without DIVERS", new DiverBottle().apart(), NONE);
        due("one", bottle("diver 1 0;").apart(), NONE);
        due("one that goes, one that never goes", bottle("diver 1 0;diver 1 9999;").apart(), NONE);
        due("two that never go", bottle("diver 1 9999;diver 1 9999;").apart(), NONE);
    }

    // ---- lifts

    @Holds(in = 22, says = "The greatest LOAD (0 to 999) with which he comes up from the floor, THUMB 0 (WEIGHT below 0 at all DEPTHS).")
    static void lifts() {
        // on the floor 380 weighs -1, 384 weighs -2 (112512 by 1100 is 102)
        DiverBottle x = bottle("diver 100 380;diver 100 384;");
        x.thumb(500);
        due("LOAD 0", x.lifts(0), 0);
        due("LOAD 1", x.lifts(1), 1);
        // by warm 275 and PRESS 1100 VOLUME is a quarter of the BUBBLE: 1000 and 1001
        due("LOAD 998 at most", bottle("warm 275;height 100;diver 1 4000;").lifts(0), 998);
        due("LOAD 999 at most", bottle("warm 275;height 100;diver 1 4004;").lifts(0), 999);
        due("999 and no more", bottle("diver 1 9999;").lifts(0), 999);
    }

    @Holds(in = 22, says = "The greatest LOAD (0 to 999) with which he comes up from the floor, THUMB 0 (WEIGHT below 0 at all DEPTHS).")
    static void liftsAtAllDepths() {
        // 175800 by 1059 is 166, just above the salt; by 1000 it is 175
        due("heaviest above the salt", bottle("salt 60 50;diver 140 600;").lifts(0), 25);
        due("heaviest at the top", bottle("salt 1 50;diver 140 600;").lifts(0), 34);
        due("salt at all DEPTHS: 175800 by 1100 is 159", bottle("salt 0 50;diver 140 600;").lifts(0), 68);
    }

    @Holds(in = 22, says = "The greatest LOAD (0 to 999) with which he comes up from the floor, THUMB 0 (WEIGHT below 0 at all DEPTHS).")
    static void liftsWithoutTheLoadThatHeHas() {
        DiverBottle x = bottle("height 10;ring 2;diver 100 360 hook;");
        due("without LOAD: 105480 by 1010 is 104", x.lifts(0), 3);
        x.thumb(500);
        x.go(99);
        due("LOAD", x.diver(0, 5), 2);
        due("with LOAD", x.lifts(0), 3);
    }

    @Holds(in = 22, says = "BAD;")
    static void liftsBad() {
        DiverBottle x = bottle("diver 140 600;diver 1 0;");
        Check.bounds("lifts(k)", k -> x.lifts(k), 0, 1, BAD);
    }

    @Holds(in = 22, says = "NONE: with none.")
    static void liftsNone() {
        due("WEIGHT 0 on the floor", bottle("diver 100 379;").lifts(0), NONE);
        due("heavy", bottle("diver 100 0;").lifts(0), NONE);
        due("light on the floor, heavy above", bottle("salt 100 99;diver 50 0;").lifts(0), NONE);
    }
}
