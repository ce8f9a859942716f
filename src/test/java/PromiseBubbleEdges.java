/** Promises 23 to 25: bubbles, atThumb, spread. */
final class PromiseBubbleEdges {
    private static final int BAD = Check.BAD, NONE = Check.NONE;

    private PromiseBubbleEdges() {
    }

    private static void due(String call, long got, long want) {
        Check.due(call, got, want);
    }

    private static DiverBottle bottle(String text) {
        return Check.bottle(text);
    }

    /** How many, the least and the greatest. */
    private static void three(String call, int[] got, int many, int least, int greatest) {
        due(call + ", how many", got[0], many);
        due(call + ", the least", got[1], least);
        due(call + ", the greatest", got[2], greatest);
    }

    private static void bubbles(DiverBottle x, int heavy, int thumb, int many, int least, int greatest) {
        int[] got = new int[3];
        for (int what = 0; what < 3; what++) got[what] = x.bubbles(heavy, thumb, what);
        three("bubbles(" + heavy + ", " + thumb + ")", got, many, least, greatest);
    }

    private static void atThumb(DiverBottle x, int heavy, int thumb, int many, int least, int greatest) {
        int[] got = new int[3];
        for (int what = 0; what < 3; what++) got[what] = x.atThumb(heavy, thumb, what);
        three("atThumb(" + heavy + ", " + thumb + ")", got, many, least, greatest);
    }

    // ---- bubbles

    @Holds(in = 23, says = "BUBBLES (0 to 9999) that COME BACK, and GO by a THUMB, for a HEAVY (1 to 999):")
    static void theLeastAndTheGreatestHeavy() {
        DiverBottle x = new DiverBottle();
        // 1 comes back from 8 on (2200 by 293) and goes up to 5 (below 1500 by 293)
        bubbles(x, 1, 500, 0, NONE, NONE);
        // 999 from 3755 on (1100000 by 293) up to 5114 (below 1498500 by 293)
        bubbles(x, 999, 500, 1360, 3755, 5114);
        // the most there is need of is far from 9999: from 5600 on (1400000 by 250) up to 6793 (below 1698300 by 250)
        bubbles(bottle("air 1200;height 200;warm 250;"), 999, 500, 1194, 5600, 6793);
    }

    @Holds(in = 23, says = "how many (what 0), the least (1; NONE), the greatest (2; NONE).")
    static void noneOneAndTwo() {
        // 380 goes at 114 (111340 by 100), 381 at 117
        DiverBottle x = new DiverBottle();
        bubbles(x, 100, 0, 0, NONE, NONE);
        bubbles(x, 100, 113, 0, NONE, NONE);
        bubbles(x, 100, 114, 1, 380, 380);
        bubbles(x, 100, 116, 1, 380, 380);
        bubbles(x, 100, 117, 2, 380, 381);
        bubbles(x, 100, 500, 132, 380, 511);
        // light in the salt without a BUBBLE: none goes
        bubbles(bottle("salt 0 99;"), 98, 500, 0, NONE, NONE);
        bubbles(bottle("salt 0 99;"), 99, 500, 0, NONE, NONE);
    }

    @Holds(in = 23, says = "BAD.")
    static void bubblesBad() {
        DiverBottle x = new DiverBottle();
        Check.bounds("bubbles(heavy, 0, 0)", h -> x.bubbles(h, 0, 0), 1, 999, BAD);
        Check.bounds("bubbles(5, thumb, 0)", t -> x.bubbles(5, t, 0), 0, 500, BAD);
        Check.bounds("bubbles(5, 0, what)", w -> x.bubbles(5, 0, w), 0, 2, BAD);
    }

    // ---- atThumb

    @Holds(in = 24, says = "BUBBLES of a HEAVY that GO AT a THUMB: how many (what 0), the least (1; NONE), the greatest (2; NONE).")
    static void atTheFirstAndTheLastThumb() {
        DiverBottle x = new DiverBottle();
        // by THUMB 0 all below 1000 by 293, whether they come back or not
        atThumb(x, 1, 0, 4, 0, 3);
        atThumb(x, 100, 0, 342, 0, 341);
        // 999 at 500: from 1497501 by 293 on, below 1498500 by 293
        atThumb(x, 999, 500, 4, 5111, 5114);
    }

    @Holds(in = 24, says = "BUBBLES of a HEAVY that GO AT a THUMB: how many (what 0), the least (1; NONE), the greatest (2; NONE).")
    static void atThumbNoneAndOne() {
        DiverBottle x = new DiverBottle();
        // of HEAVY 1 the BUBBLE 4 goes at 173: 1172 by 1172 is 1
        atThumb(x, 1, 172, 0, NONE, NONE);
        atThumb(x, 1, 173, 1, 4, 4);
        atThumb(x, 1, 174, 0, NONE, NONE);
        atThumb(x, 1, 1, 0, NONE, NONE);
        // WEIGHT 0 and below by the salt: none goes
        atThumb(bottle("salt 0 99;"), 99, 0, 0, NONE, NONE);
        atThumb(bottle("salt 0 99;"), 1, 500, 0, NONE, NONE);
        atThumb(bottle("salt 0 99;"), 100, 0, 4, 0, 3);
        // the salt from 1 on is not at DEPTH 0
        atThumb(bottle("salt 1 99;"), 1, 173, 1, 4, 4);
        atThumb(bottle("salt 1 99;"), 999, 500, 4, 5111, 5114);
    }

    @Holds(in = 24, says = "BAD.")
    static void atThumbBad() {
        DiverBottle x = new DiverBottle();
        Check.bounds("atThumb(heavy, 0, 0)", h -> x.atThumb(h, 0, 0), 1, 999, BAD);
        Check.bounds("atThumb(5, thumb, 0)", t -> x.atThumb(5, t, 0), 0, 500, BAD);
        Check.bounds("atThumb(5, 0, what)", w -> x.atThumb(5, 0, w), 0, 2, BAD);
    }

    // ---- spread

    @Holds(in = 25, says = "n (2 to 6) BUBBLES of a HEAVY that COME BACK and GO AT unlike THUMBS:")
    static void asManyAsThereAre() {
        // of HEAVY 5 the BUBBLES 23, 24, 25 come back and go at 348, 407, 466
        DiverBottle x = new DiverBottle();
        due("three of three", x.spread(5, 3, 0), 59);
        due("two of three", x.spread(5, 2, 0), 118);
        due("four of three", x.spread(5, 4, 0), NONE);
    }

    @Holds(in = 25, says = "n (2 to 6) BUBBLES of a HEAVY that COME BACK and GO AT unlike THUMBS:")
    static void bubblesThatGoAtTheSameThumb() {
        // of HEAVY 999 four BUBBLES go at 500, but no two of them are counted: THUMBS 1 to 500 in all
        DiverBottle x = bottle("air 800;height 10;salt 10 99;");
        due("BUBBLES at 500", x.atThumb(999, 500, 0) > 1 ? 1 : 0, 1);
        due("the two ends", x.spread(999, 2, 0), 499);
        due("six", x.spread(999, 6, 0), 99);
    }

    @Holds(in = 25, says = "the greatest number by which those are all apart at least (what 0);")
    static void allApartAtLeast() {
        // of HEAVY 6: 27, 28, 29, 30 at 319 (7911 by 6), 368 (8204 by 6), 417 (8497 by 6), 466 (8790 by 6)
        DiverBottle x = new DiverBottle();
        due("two: 319, 466", x.spread(6, 2, 0), 147);
        due("three: 319, 368 or 417, 466", x.spread(6, 3, 0), 49);
        due("four", x.spread(6, 4, 0), 49);
        due("five", x.spread(6, 5, 0), NONE);
    }

    @Holds(in = 25, says = "the least THUMB at which the first of such can go (1).")
    static void theFirstOfSuch() {
        DiverBottle x = new DiverBottle();
        for (int n = 2; n <= 4; n++) due("HEAVY 6, n " + n, x.spread(6, n, 1), 319);
        for (int n = 2; n <= 3; n++) due("HEAVY 5, n " + n, x.spread(5, n, 1), 348);
        DiverBottle wide = bottle("air 800;height 10;salt 10 99;");
        due("the least THUMB there is", wide.spread(999, 6, 1), 1);
    }

    @Holds(in = 25, says = "BAD;")
    static void spreadBad() {
        DiverBottle x = new DiverBottle();
        Check.bounds("spread(heavy, 2, 0)", h -> x.spread(h, 2, 0), 1, 999, BAD);
        Check.bounds("spread(100, n, 0)", n -> x.spread(100, n, 0), 2, 6, BAD);
        Check.bounds("spread(100, 2, what)", w -> x.spread(100, 2, w), 0, 1, BAD);
    }

    @Holds(in = 25, says = "NONE: there are no n.")
    static void spreadNone() {
        DiverBottle x = new DiverBottle();
        for (int what = 0; what < 2; what++) {
            due("HEAVY 1 has none, what " + what, x.spread(1, 2, what), NONE);
            due("HEAVY 5 has three, what " + what, x.spread(5, 4, what), NONE);
            due("HEAVY 6 has four, what " + what, x.spread(6, 5, what), NONE);
            // of HEAVY 3 the BUBBLE 16 alone: 4400 by 293 is above 15, 16 goes at 563
            due("HEAVY 3 has none, what " + what, x.spread(3, 2, what), NONE);
            // of HEAVY 4 the BUBBLES 19 (at 392) and 20 (at 466)
            due("HEAVY 4 has two, what " + what, x.spread(4, 2, what), what == 0 ? 74 : 392);
            due("HEAVY 4 has no three, what " + what, x.spread(4, 3, what), NONE);
        }
    }
}
