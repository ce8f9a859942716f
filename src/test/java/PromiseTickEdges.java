/** Promises 8 to 13: thumb, warm, go, set, now, drop. */
final class PromiseTickEdges {
    private static final int BAD = Check.BAD;
    private static final String DOWN_64 = "height 10;drag 64;";
    private static final String BOTH = "salt 80 9;hour 3 255;diver 140 500 rate 3;diver 140 620 leak 3;";

    private PromiseTickEdges() {
    }

    private static void due(String call, long got, long want) {
        Check.due(call, got, want);
    }

    private static DiverBottle bottle(String text) {
        return Check.bottle(text);
    }

    // ---- thumb, warm

    @Holds(in = 8, says = "THUMB becomes v (0 to 500): what it was.")
    static void thumb() {
        DiverBottle x = new DiverBottle();
        due("thumb(500)", x.thumb(500), 0);
        due("press(0)", x.press(0), 1500);
        due("thumb(500) once more", x.thumb(500), 500);
        due("thumb(0)", x.thumb(0), 500);
        due("thumb(1)", x.thumb(1), 0);
        due("now(1)", x.now(1), 1);
    }

    /** What is asked by a told THUMB, or by THUMB 0, whatever the THUMB is. */
    private static int[] askedByTold(DiverBottle x) {
        return new int[] {x.weighs(0, 50, 7), x.turning(0, 7), x.holding(0, 7), x.back(0), x.goesAt(0), x.order(0), x.apart(),
            x.lifts(1), x.bubbles(140, 300, 0), x.bubbles(140, 300, 1), x.bubbles(140, 300, 2), x.atThumb(140, 30, 1),
            x.atThumb(140, 30, 2), x.spread(5, 2, 0), x.spread(5, 2, 1), x.hold(0, 20, 7, 2, 3, 50, 1),
            x.hold(0, 20, 7, 2, 3, 50, 2), x.late(0, 20, 7, 3, 99), x.step(0, 20, 7, 3, 99, 0), x.step(0, 20, 7, 3, 99, 1),
            x.trips(1), x.bladder(0, 0, 50, 0), x.bladder(0, 0, 50, 1), x.beats(0, 300, 7, 0), x.beats(0, 300, 7, 1),
            x.fits(140, 0), x.fits(140, 1), x.fits(140, 2), x.who()};
    }

    private static DiverBottle both(String warm) {
        DiverBottle x = bottle(warm + BOTH);
        x.saw(20, 30, false);
        x.saw(120, 30, true);
        return x;
    }

    @Holds(in = 8, says = "THUMB becomes v (0 to 500): what it was.")
    static void thumbDoesNothingToWhatIsAskedByATold() {
        DiverBottle x = both("");
        int[] was = askedByTold(x), hours = {x.hours(0, 0), x.hours(0, 1)};
        x.thumb(500);
        int[] is = askedByTold(x);
        for (int i = 0; i < was.length; i++) due("part " + i, is[i], was[i]);
        for (int what = 0; what < 2; what++) due("hours(0, " + what + ")", x.hours(0, what), hours[what]);
    }

    @Holds(in = 8, says = "BAD.")
    static void thumbBad() {
        DiverBottle x = new DiverBottle();
        x.thumb(7);
        for (int v : new int[] {-1, 501, Check.MIN, Check.MAX}) due("thumb(" + v + ")", x.thumb(v), BAD);
        due("now(1)", x.now(1), 7);
    }

    @Holds(in = 9, says = "warm becomes v (250 to 350): what it was.")
    static void warm() {
        DiverBottle x = bottle("diver 100 100;");
        due("warm(250)", x.warm(250), 293);
        due("25000 by 1000", x.diver(0, 9), 75);
        due("warm(350)", x.warm(350), 250);
        due("35000 by 1000", x.diver(0, 9), 65);
        due("warm(350) once more", x.warm(350), 350);
        due("rule(2)", x.rule(2), 350);
    }

    @Holds(in = 9, says = "warm becomes v (250 to 350): what it was.")
    static void warmAsItIsIsAsWarmThatIsTold() {
        int other = 0;
        for (int v : new int[] {250, 275, 350}) {
            DiverBottle x = both(""), y = both("warm " + v + ";");
            int[] was = askedByTold(x), want = askedByTold(y);
            x.warm(v);
            int[] is = askedByTold(x);
            for (int i = 0; i < was.length; i++) {
                due("part " + i + " by warm " + v, is[i], want[i]);
                if (is[i] != was[i]) other |= 1 << i;
            }
            due("HOURS are as told", x.hours(0, 0), both("").hours(0, 0));
        }
        // each part but order() is another one by one of them
        due("parts that are other", other, (1 << 29) - 1 - (1 << 5));
    }

    @Holds(in = 9, says = "BAD.")
    static void warmBad() {
        DiverBottle x = new DiverBottle();
        for (int v : new int[] {249, 351, 0, -1, Check.MIN, Check.MAX}) due("warm(" + v + ")", x.warm(v), BAD);
        due("rule(2)", x.rule(2), 293);
    }

    // ---- go

    @Holds(in = 10, says = "n TICKS (1 to 999) go: DIVERS that are on the floor then (bits).")
    static void ticksGo() {
        DiverBottle x = bottle("diver 7 0;diver 5 0;diver 5 9999;");
        x.set(1, 100);
        due("go(1)", x.go(1), 2);
        due("TICK", x.now(0), 1);
        due("FINE DEPTH", x.diver(0, 7), 7);
        due("go(999)", x.go(999), 3);
        due("TICK", x.now(0), 1000);
    }

    @Holds(in = 10, says = "n TICKS (1 to 999) go: DIVERS that are on the floor then (bits).")
    static void floorBits() {
        DiverBottle x = bottle(DOWN_64 + "diver 64 0;diver 65 0;diver 64 0;diver 65 0;diver 64 0;diver 65 0;");
        for (int k = 0; k < 6; k++) x.set(k, 9);
        due("639 is not on the floor", x.go(1), 0b101010);
        due("all six", x.go(1), 63);
    }

    @Holds(in = 10, says = "BAD.")
    static void goBad() {
        DiverBottle x = bottle("diver 7 0;");
        for (int n : new int[] {0, -1, 1000, Check.MIN, Check.MAX}) due("go(" + n + ")", x.go(n), BAD);
        due("TICK", x.now(0), 0);
        due("FINE DEPTH", x.diver(0, 7), 0);
    }

    // ---- set

    @Holds(in = 11, says = "A DIVER is set to a DEPTH, PACE 0 (nothing is taken, fetched, lost): his DEPTH before.")
    static void setToTheFloor() {
        DiverBottle x = bottle(DOWN_64 + "ring 5;diver 65 3 leak 2 hook;");
        due("set(0, 10)", x.set(0, 10), 0);
        due("on the floor", x.now(3), 1);
        due("nothing is taken", x.diver(0, 5), 0);
        due("nothing is lost", x.diver(0, 1), 3);
        x.go(1);
        due("nothing is taken then", x.now(4), 1);
        due("nothing is lost then", x.diver(0, 1), 3);
        due("set(0, 10) once more", x.set(0, 10), 10);
    }

    @Holds(in = 11, says = "A DIVER is set to a DEPTH, PACE 0 (nothing is taken, fetched, lost): his DEPTH before.")
    static void setToTheTop() {
        DiverBottle x = bottle("height 10;ring 1;diver 100 360 hook;");
        x.thumb(500);
        x.go(99);
        due("LOAD", x.diver(0, 5), 1);
        x.thumb(0);
        due("set(0, 0)", x.set(0, 0), 10);
        due("at the top", x.now(2), 1);
        due("LOAD at the top", x.diver(0, 5), 1);
        due("nothing is FETCHED", x.now(5), 0);
        x.go(1);
        due("nothing is FETCHED then", x.now(5), 0);
    }

    @Holds(in = 11, says = "A DIVER is set to a DEPTH, PACE 0 (nothing is taken, fetched, lost): his DEPTH before.")
    static void setEndsThePace() {
        DiverBottle x = bottle(DOWN_64 + "diver 63 0;");
        x.go(1);
        due("PACE", x.diver(0, 8), 63);
        due("DEPTH before, FINE 63", x.set(0, 5), 0);
        due("PACE then", x.diver(0, 8), 0);
        due("FINE DEPTH then", x.diver(0, 7), 320);
        x.go(1);
        due("DEPTH before, FINE 383", x.set(0, 5), 5);
    }

    @Holds(in = 11, says = "BAD.")
    static void setBad() {
        DiverBottle x = bottle(DOWN_64 + "diver 63 0;");
        Check.bounds("set(k, 0)", k -> x.set(k, 0), 0, 0, BAD);
        Check.bounds("set(0, depth)", d -> x.set(0, d), 0, 10, BAD);
        x.set(0, 5);
        x.set(0, 11);
        due("DEPTH behind set(0, 11)", x.diver(0, 6), 5);
    }

    // ---- now

    @Holds(in = 12, says = "0 TICK,")
    static void nowTick() {
        DiverBottle x = new DiverBottle();
        due("at first", x.now(0), 0);
        x.go(999);
        x.go(1);
        due("behind 999 and 1", x.now(0), 1000);
    }

    @Holds(in = 12, says = "1 THUMB,")
    static void nowThumb() {
        DiverBottle x = new DiverBottle();
        due("at first", x.now(1), 0);
        x.thumb(500);
        due("the greatest", x.now(1), 500);
    }

    @Holds(in = 12, says = "2 DIVERS at the top (bits),")
    static void nowTop() {
        DiverBottle x = bottle("diver 1 0;diver 1 9999;diver 1 0;");
        due("at first", x.now(2), 7);
        x.go(1);
        due("FINE DEPTH 1", x.diver(0, 7), 1);
        due("FINE DEPTH 1 is not the top", x.now(2), 2);
        x.set(2, 0);
        due("who is set there", x.now(2), 6);
        due("six", bottle("diver 1 1;".repeat(6)).now(2), 63);
        due("none", new DiverBottle().now(2), 0);
    }

    @Holds(in = 12, says = "3 on the floor (bits),")
    static void nowFloor() {
        DiverBottle x = bottle(DOWN_64 + "diver 64 0;diver 65 0;");
        due("at first", x.now(3), 0);
        x.set(0, 9);
        x.set(1, 9);
        x.go(1);
        due("FINE DEPTH 639", x.diver(0, 7), 639);
        due("639 is not the floor", x.now(3), 2);
        x.set(0, 10);
        due("who is set there", x.now(3), 3);
    }

    @Holds(in = 12, says = "4 whether THE RING is on the floor (1, 0),")
    static void nowRing() {
        due("there is none", bottle("ring 0;").now(4), 0);
        DiverBottle x = bottle(DOWN_64 + "ring 5;diver 65 0 hook;");
        due("at first", x.now(4), 1);
        x.go(99);
        due("he has it", x.now(4), 0);
        x.drop();
        due("behind drop()", x.now(4), 1);
    }

    @Holds(in = 12, says = "5 how often it was FETCHED.")
    static void nowFetched() {
        DiverBottle x = bottle("height 10;ring 1;diver 100 360 hook;");
        for (int times = 0; times < 3; times++) {
            due("FETCHED", x.now(5), times);
            x.thumb(500);
            x.go(99);
            due("when he has it", x.now(5), times);
            x.thumb(0);
            x.go(300);
            due("FETCHED then", x.now(5), times + 1);
            due("it is not there", x.now(4), 0);
            due("drop()", x.drop(), 1);
        }
    }

    @Holds(in = 12, says = "BAD.")
    static void nowBad() {
        DiverBottle x = new DiverBottle();
        Check.bounds("now(what)", what -> x.now(what), 0, 5, BAD);
    }

    // ---- drop

    @Holds(in = 13, says = "THE RING lies on the floor again (who had it has no LOAD): whether it was not there (1, 0).")
    static void dropOfWhoHasIt() {
        DiverBottle x = bottle(DOWN_64 + "ring 5;diver 65 0;diver 65 0 hook;");
        due("it is there", x.drop(), 0);
        x.go(99);
        due("LOAD", x.diver(1, 5), 5);
        due("he has it", x.drop(), 1);
        due("LOAD then", x.diver(1, 5), 0);
        due("now(4)", x.now(4), 1);
        due("it is there again", x.drop(), 0);
        x.go(1);
        due("who is there takes none", x.diver(1, 5), 0);
        x.set(1, 9);
        x.go(1);
        due("who comes takes it", x.diver(1, 5), 5);
    }

    @Holds(in = 13, says = "THE RING lies on the floor again (who had it has no LOAD): whether it was not there (1, 0).")
    static void dropOfTheFirstAndOfTheLast() {
        for (int has = 0; has < 6; has += 5) {
            DiverBottle x = bottle(DOWN_64 + "ring 5;" + "diver 65 0 hook;".repeat(6));
            x.set(has, 9);
            x.go(1);
            due("LOAD of " + has, x.diver(has, 5), 5);
            due("drop()", x.drop(), 1);
            due("LOAD then", x.diver(has, 5), 0);
        }
    }

    @Holds(in = 13, says = "THE RING lies on the floor again (who had it has no LOAD): whether it was not there (1, 0).")
    static void dropOfWhatIsFetchedAndOfNone() {
        DiverBottle x = bottle("height 10;ring 1;diver 100 360 hook;");
        x.thumb(500);
        x.go(99);
        x.thumb(0);
        x.go(300);
        due("FETCHED", x.now(5), 1);
        due("drop()", x.drop(), 1);
        due("now(4)", x.now(4), 1);
        due("FETCHED stays", x.now(5), 1);
        due("there is none", bottle("ring 0;diver 5 5 hook;").drop(), 0);
    }
}
