import java.util.ArrayList;
import java.util.List;
import java.util.function.ToIntFunction;

/**
 * 'Terms': what is refused changes nothing. Each call that is refused is made on one of two bottles that are alike;
 * then both are asked for all that there is.
 */
final class RefusedEdges {
    private static final int BAD = Check.BAD, STATE = Check.STATE, FULL = Check.FULL, NONE = Check.NONE;
    private static final int NO_WEIGHT = Check.NO_WEIGHT;

    private RefusedEdges() {
    }

    private static void due(String call, long got, long want) {
        Check.due(call, got, want);
    }

    /** A bottle with something in all of its parts: IMAGE 0, SHEETS 0 and 1, FAULTS of a text and of a read. */
    private static DiverBottle used(int seen) {
        DiverBottle x = Check.bottle("height 20;ring 1;salt 15 9;hour 3 260;diver 100 360 hook leak 2 rate 3;diver 7 0;");
        Check.tell(x, "drag 65;");
        x.thumb(500);
        x.go(60);
        x.saw(3, 4, true);
        x.keep(0);
        x.thumb(9);
        x.warm(300);
        x.go(3);
        x.set(1, 4);
        for (int i = 1; i < seen; i++) x.saw(40 * i, i, i % 2 == 0);
        x.sheet(0, 1, 9);
        int[] cells = {400, 5, 1, 30, 7, 0, 501, 0, 1};
        for (int i = 0; i < 9; i++) x.lay(0, i, cells[i]);
        x.sheet(1, 2, 3);
        x.read(1, 0, 0, 1);
        x.feed(0x64726167203b3b20L);
        x.end(7);
        return x;
    }

    // ---- all that there is

    private static List<Integer> askAll(DiverBottle x) {
        List<Integer> all = new ArrayList<>();
        scene(x, all);
        for (int i = 0; i < 34; i++) all.add(x.rule(i));
        all.add(x.fault());
        all.add(x.torn());
        for (int i = 0; i < 6; i++) all.add(x.count(i));
        for (int i = 0; i < 2; i++) {
            all.add(x.restore(i));
            scene(x, all);
        }
        sheets(x, all);
        all.add(x.text());
        all.add(x.fault());
        return all;
    }

    private static void scene(DiverBottle x, List<Integer> all) {
        for (int k = 0; k < 3; k++) {
            for (int what = 0; what < 10; what++) all.add(x.diver(k, what));
        }
        for (int i = 0; i < 6; i++) all.add(x.now(i));
        all.add(x.rule(2));
        all.add(x.count(2));
        all.add(x.who());
        for (int heavy = 10; heavy < 999; heavy += 240) {
            for (int what = 0; what < 3; what++) all.add(x.fits(heavy, what));
        }
    }

    private static void sheets(DiverBottle x, List<Integer> all) {
        for (int k = 0; k < 4; k++) {
            for (int lane = 0; lane < 3; lane++) {
                for (int f = 0; f < 9; f += 3) {
                    x.forget();
                    all.add(x.read(k, lane, f, 1));
                    all.add(x.fits(999, 2));
                }
                all.add(x.torn());
            }
            for (int i : new int[] {0, 2, 3, 8, 9, 39}) all.add(x.lay(k, i, 0));
        }
    }

    private static void refused(String call, int seen, ToIntFunction<DiverBottle> ask, int answer) {
        DiverBottle x = used(seen), y = used(seen);
        due(call, ask.applyAsInt(x), answer);
        List<Integer> is = askAll(x), was = askAll(y);
        for (int i = 0; i < was.size(); i++) due("part " + i + " behind " + call, is.get(i), was.get(i));
    }

    private static void refused(String call, ToIntFunction<DiverBottle> ask, int answer) {
        refused(call, 3, ask, answer);
    }

    // ---- the calls

    @Holds(says = "what is refused changes nothing")
    static void theText() {
        refused("end(-1)", x -> x.end(-1), BAD);
        refused("end(8)", x -> x.end(8), BAD);
        refused("rule(7)", x -> x.rule(7), BAD);
        refused("diver(2, 0)", x -> x.diver(2, 0), NO_WEIGHT);
        refused("diver(0, 10)", x -> x.diver(0, 10), NO_WEIGHT);
    }

    @Holds(says = "what is refused changes nothing")
    static void ticks() {
        refused("thumb(-1)", x -> x.thumb(-1), BAD);
        refused("thumb(501)", x -> x.thumb(501), BAD);
        refused("warm(249)", x -> x.warm(249), BAD);
        refused("warm(351)", x -> x.warm(351), BAD);
        refused("go(0)", x -> x.go(0), BAD);
        refused("go(1000)", x -> x.go(1000), BAD);
        refused("set(0, 21)", x -> x.set(0, 21), BAD);
        refused("set(0, -1)", x -> x.set(0, -1), BAD);
        refused("set(2, 0)", x -> x.set(2, 0), BAD);
        refused("now(6)", x -> x.now(6), BAD);
    }

    @Holds(says = "what is refused changes nothing")
    static void whatHeWeighs() {
        refused("press(21)", x -> x.press(21), BAD);
        refused("weighs(0, 0, 501)", x -> x.weighs(0, 0, 501), NO_WEIGHT);
        refused("turning(0, 501)", x -> x.turning(0, 501), BAD);
        refused("holding(0, 501)", x -> x.holding(0, 501), BAD);
        refused("holding(0, 0)", x -> x.holding(0, 0), NONE);
        refused("back(2)", x -> x.back(2), BAD);
        refused("goesAt(2)", x -> x.goesAt(2), BAD);
        refused("order(2)", x -> x.order(2), BAD);
        refused("lifts(2)", x -> x.lifts(2), BAD);
        refused("lifts(1)", x -> x.lifts(1), NONE);
    }

    @Holds(says = "what is refused changes nothing")
    static void whichBubbleAndTheHand() {
        refused("bubbles(1, 0, 3)", x -> x.bubbles(1, 0, 3), BAD);
        refused("atThumb(1, 0, 3)", x -> x.atThumb(1, 0, 3), BAD);
        refused("spread(1, 6, 0)", x -> x.spread(1, 6, 0), NONE);
        refused("spread(1, 7, 0)", x -> x.spread(1, 7, 0), BAD);
        refused("hold(1, 20, 0, 0, 1, 1, 0)", x -> x.hold(1, 20, 0, 0, 1, 1, 0), BAD);
        refused("late(1, 20, 0, 1, 1)", x -> x.late(1, 20, 0, 1, 1), BAD);
        refused("step(1, 20, 0, 0, 1, 0)", x -> x.step(1, 20, 0, 0, 1, 0), BAD);
        refused("hours(0, 2)", x -> x.hours(0, 2), BAD);
        refused("trips(2)", x -> x.trips(2), BAD);
        refused("bladder(1, 0, 15, 0)", x -> x.bladder(1, 0, 15, 0), NONE);
        refused("bladder(1, 0, 21, 0)", x -> x.bladder(1, 0, 21, 0), BAD);
        refused("beats(0, 9999, 1, 0)", x -> x.beats(0, 9999, 1, 0), NONE);
        refused("beats(0, 0, 0, 0)", x -> x.beats(0, 0, 0, 0), BAD);
    }

    @Holds(says = "what is refused changes nothing")
    static void seenAndImages() {
        refused("saw(501, 0, true)", x -> x.saw(501, 0, true), BAD);
        refused("saw(0, 21, true)", x -> x.saw(0, 21, true), BAD);
        refused("saw, the 13th", 12, x -> x.saw(0, 0, true), FULL);
        refused("fits(0, 0)", x -> x.fits(0, 0), BAD);
        refused("keep(2)", x -> x.keep(2), BAD);
        refused("restore(2)", x -> x.restore(2), BAD);
        refused("restore(1)", x -> x.restore(1), STATE);
    }

    @Holds(says = "what is refused changes nothing")
    static void sheets() {
        refused("sheet(0, 3, 1)", x -> x.sheet(0, 3, 1), BAD);
        refused("sheet(0, 0, 41)", x -> x.sheet(0, 0, 41), BAD);
        refused("sheet(0, 0, -1)", x -> x.sheet(0, 0, -1), -14);
        refused("sheet(2, 0, -1)", x -> x.sheet(2, 0, -1), -14);
        refused("lay(0, 9, 5)", x -> x.lay(0, 9, 5), -12);
        refused("lay(0, -1, 5)", x -> x.lay(0, -1, 5), -12);
        refused("lay(2, 0, 5)", x -> x.lay(2, 0, 5), -11);
        refused("lay(4, 0, 5)", x -> x.lay(4, 0, 5), BAD);
        refused("read(0, 1, 0, 13)", x -> x.read(0, 1, 0, 13), BAD);
        refused("read(0, 3, 0, 1)", x -> x.read(0, 3, 0, 1), BAD);
        refused("read(0, 1, 0, 3)", x -> x.read(0, 1, 0, 3), -22);
        refused("read(0, 1, 0, 2), one has room", 11, x -> x.read(0, 1, 0, 2), FULL);
        refused("count(6)", x -> x.count(6), BAD);
    }

    @Holds(says = "(but THE TAPE, as told).")
    static void aTextThatIsRefusedEmptiesTheTape() {
        DiverBottle x = used(3), y = used(3);
        due("text()", x.text(), -15);
        due("fault()", x.fault(), 2);
        due("count(4)", x.count(4), 0);
        y.end(0);
        List<Integer> is = new ArrayList<>(), was = new ArrayList<>();
        scene(x, is);
        scene(y, was);
        for (int i = 0; i < 34; i++) {
            is.add(x.rule(i));
            was.add(y.rule(i));
        }
        for (int i = 0; i < 6; i++) {
            is.add(x.count(i));
            was.add(y.count(i));
        }
        is.add(x.torn());
        was.add(y.torn());
        is.add(x.restore(0));
        was.add(y.restore(0));
        scene(x, is);
        scene(y, was);
        sheets(x, is);
        sheets(y, was);
        for (int i = 0; i < was.size(); i++) due("part " + i, is.get(i), was.get(i));
    }

    @Holds(says = "(but THE TAPE, as told).")
    static void aTapeThatIsFullStays() {
        DiverBottle x = new DiverBottle();
        for (int i = 1; i < 40; i++) x.feed(0x2020202020202020L);
        x.feed(0x2072696e6720373bL);
        due("feed(-1)", x.feed(-1L), FULL);
        due("count(4)", x.count(4), 320);
        due("text()", x.text(), 1);
        due("rule(6)", x.rule(6), 7);
    }
}
