/** Promises 33 to 38: saw, forget, fits, who, keep, restore. */
final class PromiseSeenEdges {
    private static final int BAD = Check.BAD, STATE = Check.STATE, FULL = Check.FULL, NONE = Check.NONE;

    private PromiseSeenEdges() {
    }

    private static void due(String call, long got, long want) {
        Check.due(call, got, want);
    }

    private static DiverBottle bottle(String text) {
        return Check.bottle(text);
    }

    // ---- saw, forget

    @Holds(in = 33, says = "SEEN: how many there are (12).")
    static void upTo12() {
        DiverBottle x = new DiverBottle();
        for (int i = 1; i <= 12; i++) due("saw " + i, x.saw(0, 0, i % 2 == 0), i);
        due("count(2)", x.count(2), 12);
        // the same may be SEEN twice, and what can not be
        due("fits(100, 0)", x.fits(100, 0), 0);
    }

    @Holds(in = 33, says = "BAD (THUMB, DEPTH);")
    static void sawBad() {
        DiverBottle x = bottle("height 10;");
        Check.bounds("saw(thumb, 0, true)", t -> x.saw(t, 0, true), 0, 500, BAD);
        Check.bounds("saw(0, depth, true)", d -> x.saw(0, d, true), 0, 10, BAD);
        due("those that were as told", x.count(2), 4);
        for (int i = 4; i < 12; i++) x.saw(0, 0, true);
        due("BAD ahead of FULL, THUMB", x.saw(501, 0, true), BAD);
        due("BAD ahead of FULL, DEPTH", x.saw(0, 11, true), BAD);
    }

    @Holds(in = 33, says = "FULL.")
    static void sawFull() {
        DiverBottle x = new DiverBottle();
        for (int i = 0; i < 11; i++) x.saw(500, 0, true);
        due("the 12th", x.saw(0, 0, true), 12);
        due("the 13th", x.saw(500, 100, false), FULL);
        due("count(2)", x.count(2), 12);
        due("the 12th counts, the 13th not", x.fits(100, 2), 341);
        x.forget();
        due("there is room again", x.saw(0, 0, true), 1);
    }

    @Holds(in = 34, says = "Nothing is SEEN: how many there were.")
    static void forget() {
        DiverBottle x = new DiverBottle();
        due("of none", x.forget(), 0);
        x.saw(0, 0, true);
        due("of one", x.forget(), 1);
        due("fits(100, 0) then", x.fits(100, 0), 10000);
        due("once more", x.forget(), 0);
        for (int i = 0; i < 12; i++) x.saw(0, 0, true);
        due("of 12", x.forget(), 12);
        due("count(2)", x.count(2), 0);
    }

    // ---- fits, who

    private static void fits(DiverBottle x, int heavy, int many, int least, int greatest) {
        due("fits(" + heavy + ", 0)", x.fits(heavy, 0), many);
        due("fits(" + heavy + ", 1)", x.fits(heavy, 1), least);
        due("fits(" + heavy + ", 2)", x.fits(heavy, 2), greatest);
    }

    @Holds(in = 35, says = "WHAT IT CAN BE for a HEAVY (1 to 999):")
    static void theLeastAndTheGreatestHeavy() {
        DiverBottle x = new DiverBottle();
        x.saw(0, 0, true);
        // below 1000 by 293, and below 999000 by 293
        fits(x, 1, 4, 0, 3);
        fits(x, 999, 3410, 0, 3409);
        x.forget();
        x.saw(0, 0, false);
        fits(x, 1, 9996, 4, 9999);
        fits(x, 999, 6590, 3410, 9999);
        // on the floor: from 110000 by 293 on; by THUMB 500 too: from 160000 by 293 on
        x.saw(0, 100, false);
        fits(x, 100, 9624, 376, 9999);
        x.saw(500, 100, false);
        fits(x, 100, 9453, 547, 9999);
        // what tells less, SEEN later, changes nothing
        x.saw(0, 0, false);
        fits(x, 100, 9453, 547, 9999);
        x.saw(500, 100, true);
        fits(x, 200, 0, NONE, NONE);
    }

    @Holds(in = 35, says = "how many BUBBLES (what 0), the least (1; NONE), the greatest (2; NONE).")
    static void allOneAndNone() {
        DiverBottle x = new DiverBottle();
        fits(x, 100, 10000, 0, 9999);
        // at the top 341 weighs 1, 342 weighs 0; by THUMB 3 (100300 by 293) 342 weighs 1, by THUMB 2 (100200 by 293) 0
        x.saw(0, 0, false);
        fits(x, 100, 9658, 342, 9999);
        x.saw(3, 0, true);
        fits(x, 100, 1, 342, 342);
        x.saw(2, 0, true);
        fits(x, 100, 0, NONE, NONE);
    }

    @Holds(in = 35, says = "how many BUBBLES (what 0), the least (1; NONE), the greatest (2; NONE).")
    static void bubble0AndBubble9999() {
        // in the salt 50 sinks with no BUBBLE: WEIGHT is 0 without one
        DiverBottle salt = bottle("salt 0 50;");
        salt.saw(0, 0, true);
        fits(salt, 50, 0, NONE, NONE);
        // 51: below 1000 by 293
        fits(salt, 51, 4, 0, 3);
        salt.forget();
        salt.saw(0, 0, false);
        fits(salt, 50, 10000, 0, 9999);
        fits(salt, 51, 9996, 4, 9999);
    }

    @Holds(in = 35, says = "BAD.")
    static void fitsBad() {
        DiverBottle x = new DiverBottle();
        Check.bounds("fits(heavy, 0)", h -> x.fits(h, 0), 1, 999, BAD);
        Check.bounds("fits(100, what)", what -> x.fits(100, what), 0, 2, BAD);
    }

    @Holds(in = 36, says = "DIVERS of which all that was SEEN is so, BUBBLE, LOAD as now (bits).")
    static void whoIsIt() {
        due("without DIVERS", new DiverBottle().who(), 0);
        due("nothing SEEN, six", bottle("diver 1 1;".repeat(6)).who(), 63);
        // WEIGHTS at the top 1, 0, -1
        DiverBottle x = bottle("diver 100 341;diver 100 342;diver 100 345;");
        due("nothing SEEN", x.who(), 7);
        x.saw(0, 0, false);
        due("WEIGHT 0 did not sink", x.who(), 6);
        x.saw(3, 0, true);
        due("all that was SEEN", x.who(), 2);
        x.saw(2, 0, true);
        due("none", x.who(), 0);
    }

    @Holds(in = 36, says = "DIVERS of which all that was SEEN is so, BUBBLE, LOAD as now (bits).")
    static void whoWithALoadAndALeak() {
        // at the top: 100 less 380 * 293 by 1110 is 0; with LOAD 1 and BUBBLE 380 it is 1
        DiverBottle load = bottle("height 10;ring 1;diver 100 380 hook;");
        load.saw(110, 0, true);
        due("WEIGHT 0", load.who(), 0);
        load.thumb(500);
        load.go(99);
        due("LOAD", load.diver(0, 5), 1);
        due("WEIGHT 1 by LOAD", load.who(), 1);
        DiverBottle leak = bottle("height 10;diver 100 380 leak 1;");
        // 111340 by 1111 is 100, 111047 by 1111 is 99
        leak.saw(111, 0, true);
        due("WEIGHT 0", leak.who(), 0);
        leak.thumb(500);
        leak.go(99);
        due("BUBBLE", leak.diver(0, 1), 379);
        due("WEIGHT 1 by LEAK", leak.who(), 1);
    }

    // ---- keep, restore

    @Holds(in = 37, says = "IMAGE i (0, 1) is all (DIVERS, THUMB, warm, TICK, THE RING, SEEN): whether there was one (1, 0).")
    static void whetherThereWasOne() {
        DiverBottle x = new DiverBottle();
        due("keep(0)", x.keep(0), 0);
        due("keep(1)", x.keep(1), 0);
        due("keep(0) once more", x.keep(0), 1);
        due("keep(1) once more", x.keep(1), 1);
        x.restore(0);
        due("keep(0) behind restore(0)", x.keep(0), 1);
        x.text();
        due("keep(0) behind a text", x.keep(0), 0);
    }

    /** All that an IMAGE is, as it can be asked. */
    private static int[] all(DiverBottle x) {
        int[] is = new int[32];
        for (int what = 0; what < 10; what++) {
            is[what] = x.diver(0, what);
            is[10 + what] = x.diver(1, what);
        }
        for (int what = 0; what < 6; what++) is[20 + what] = x.now(what);
        is[26] = x.rule(2);
        is[27] = x.count(2);
        is[28] = x.who();
        for (int what = 0; what < 3; what++) is[29 + what] = x.fits(100, what);
        return is;
    }

    private static void same(String when, DiverBottle x, int[] was) {
        int[] is = all(x);
        for (int i = 0; i < was.length; i++) due("part " + i + " " + when, is[i], was[i]);
    }

    /** Two DIVERS, the first of them with THE RING on his way up. */
    private static DiverBottle underWay() {
        DiverBottle x = bottle("height 10;ring 1;diver 100 360 hook leak 2;diver 7 0;");
        x.thumb(500);
        x.go(60);
        x.thumb(0);
        x.go(3);
        x.thumb(4);
        x.warm(300);
        x.set(1, 5);
        x.go(1);
        x.saw(140, 2, true);
        x.saw(1, 7, false);
        return x;
    }

    @Holds(in = 37, says = "IMAGE i (0, 1) is all (DIVERS, THUMB, warm, TICK, THE RING, SEEN): whether there was one (1, 0).")
    static void anImageIsAll() {
        DiverBottle x = underWay();
        int[] was = all(x);
        due("LOAD", x.diver(0, 5), 1);
        x.keep(0);
        same("behind keep(0)", x, was);
        x.thumb(0);
        x.warm(350);
        x.go(300);
        x.drop();
        x.saw(3, 4, false);
        due("FETCHED", x.now(5), 1);
        int[] then = all(x);
        x.keep(1);
        x.restore(0);
        same("behind restore(0)", x, was);
        x.restore(1);
        same("behind restore(1)", x, then);
        // a later keep is in place of the one before
        x.keep(0);
        x.go(9);
        x.restore(0);
        same("behind restore(0) once more", x, then);
    }

    @Holds(in = 37, says = "BAD.")
    static void keepBad() {
        DiverBottle x = new DiverBottle();
        for (int i : new int[] {-1, 2, Check.MIN, Check.MAX}) due("keep(" + i + ")", x.keep(i), BAD);
        due("count(3)", x.count(3), 0);
    }

    @Holds(in = 38, says = "All is as IMAGE i: its TICK.")
    static void itsTick() {
        DiverBottle x = underWay();
        x.keep(1);
        int[] was = all(x);
        due("TICK", x.now(0), 64);
        for (int turn = 0; turn < 2; turn++) {
            x.go(99);
            x.forget();
            x.saw(400, 9, false);
            x.saw(500, 10, true);
            x.set(0, 2);
            due("restore(1)", x.restore(1), 64);
            same("behind restore(1)", x, was);
        }
        // it goes on from there as it did
        DiverBottle y = underWay();
        x.go(50);
        y.go(50);
        same("50 TICKS later", x, all(y));
        DiverBottle fresh = new DiverBottle();
        fresh.keep(0);
        fresh.go(5);
        due("TICK 0", fresh.restore(0), 0);
    }

    @Holds(in = 38, says = "BAD;")
    static void restoreBad() {
        DiverBottle x = new DiverBottle();
        x.keep(0);
        x.keep(1);
        for (int i : new int[] {-1, 2, Check.MIN, Check.MAX}) due("restore(" + i + ")", x.restore(i), BAD);
    }

    @Holds(in = 38, says = "STATE: there is none.")
    static void restoreState() {
        DiverBottle x = new DiverBottle();
        for (int i = 0; i < 2; i++) due("restore(" + i + ")", x.restore(i), STATE);
        x.keep(1);
        due("restore(0), there is the other one", x.restore(0), STATE);
        due("restore(1)", x.restore(1), 0);
        x.text();
        due("restore(1) behind a text", x.restore(1), STATE);
    }
}
