/** Promises 39 to 43: sheet, lay, read, torn, count. */
final class PromiseSheetEdges {
    private static final int BAD = Check.BAD, FULL = Check.FULL, NONE = Check.NONE;
    private static final int NULL = 1, INDEX = 2, CAST = 3;

    private PromiseSheetEdges() {
    }

    private static void due(String call, long got, long want) {
        Check.due(call, got, want);
    }

    private static DiverBottle bottle(String text) {
        return Check.bottle(text);
    }

    private static void layAll(DiverBottle x, int k, int... cells) {
        for (int i = 0; i < cells.length; i++) x.lay(k, i, cells[i]);
    }

    private static void read(DiverBottle x, int lane, int f, int n, int came, int torn) {
        String call = "read(0, " + lane + ", " + f + ", " + n + ")";
        due(call, x.read(0, lane, f, n), came);
        due("torn() behind " + call, x.torn(), torn);
    }

    // ---- sheet

    @Holds(in = 39, says = "A SHEET is a new row of CELLS 0: 1.")
    static void aNewRow() {
        DiverBottle x = new DiverBottle();
        for (int k = 0; k < 4; k++) due("sheet(" + k + ")", x.sheet(k, k % 3, 40), 1);
        // THUMB 0, DEPTH 0, not sunk
        for (int f = 0; f < 39; f += 3) {
            x.forget();
            read(x, 0, f, 1, 1, 0);
            due("fits(100, 1)", x.fits(100, 1), 342);
        }
        for (int i = 0; i < 40; i++) x.lay(0, i, 100);
        due("sheet(0) anew", x.sheet(0, 0, 40), 1);
        x.forget();
        read(x, 0, 0, 12, 12, 0);
        due("its CELLS are 0 again", x.fits(100, 1), 342);
        x.forget();
        read(x, 0, 36, 1, 1, 0);
        due("its last CELLS are 0 again", x.fits(100, 1), 342);
        due("fewer CELLS", x.sheet(0, 2, 3), 1);
        read(x, 2, 0, 2, 1, INDEX);
        read(x, 0, 0, 1, 0, CAST);
    }

    @Holds(in = 39, says = "BAD: also n above 40;")
    static void sheetBad() {
        DiverBottle x = new DiverBottle();
        due("n 40", x.sheet(0, 0, 40), 1);
        for (int n : new int[] {41, 42, Check.MAX}) due("n " + n, x.sheet(0, 0, n), BAD);
        due("count(5)", x.count(5), 40);
        due("n 0", x.sheet(0, 0, 0), 1);
        Check.bounds("sheet(k, 0, 5)", k -> x.sheet(k, 0, 5), 0, 3, BAD);
        Check.bounds("sheet(0, lane, 5)", lane -> x.sheet(0, lane, 5), 0, 2, BAD);
        due("k ahead of SIZE", x.sheet(4, 0, -1), BAD);
        due("lane ahead of SIZE", x.sheet(0, 3, -1), BAD);
    }

    @Holds(in = 39, says = "-10 - 4.")
    static void sheetSize() {
        DiverBottle x = new DiverBottle();
        for (int n : new int[] {-1, -2, Check.MIN}) due("n " + n, x.sheet(0, 0, n), -14);
        due("it is nothing still", x.count(5), NONE);
        x.sheet(0, 0, 7);
        due("n -1", x.sheet(0, 1, -1), -14);
        due("it is as it was", x.count(5), 7);
        read(x, 0, 0, 1, 1, 0);
    }

    // ---- lay

    @Holds(in = 40, says = "CELL i of a SHEET becomes v (its lowest bits): 1.")
    static void lowestBits() {
        // what is laid as THUMB, DEPTH, and 1 or 0: 1 in its lowest bits
        long[] ones = {256 + 1, 65536 + 1, 1L << 31 | 1};
        DiverBottle x = new DiverBottle();
        for (int lane = 0; lane < 3; lane++) {
            for (int i = 0; i < 3; i++) {
                x.sheet(0, lane, 3);
                due("lay of " + ones[i], x.lay(0, 2, (int) ones[i]), 1);
                boolean cut = lane == 0 || (lane == 1 && i > 0);
                due("lane " + lane + ", " + ones[i], x.read(0, lane, 0, 1), cut ? 1 : -20);
                x.forget();
            }
        }
        // the highest of the bits that are left is the sign
        int[] signs = {128, 32768, Check.MIN};
        for (int lane = 0; lane < 3; lane++) {
            x.sheet(0, lane, 3);
            x.lay(0, 0, signs[lane]);
            due("sign in lane " + lane, x.read(0, lane, 0, 1), -20);
            x.lay(0, 0, signs[0] - 1);
            due("127 in lane " + lane, x.read(0, lane, 0, 1), 1);
            x.forget();
        }
    }

    @Holds(in = 40, says = "CELL i of a SHEET becomes v (its lowest bits): 1.")
    static void firstAndLastCell() {
        DiverBottle x = new DiverBottle();
        x.sheet(0, 2, 40);
        due("lay(0, 0, 2)", x.lay(0, 0, 2), 1);
        due("lay(0, 39, 2)", x.lay(0, 39, 2), 1);
        // each alone is 2 where 1 or 0 is due
        due("read whose third is CELL 39", x.read(0, 2, 37, 1), -20);
        due("read whose third is CELL 38", x.read(0, 2, 36, 1), 1);
        x.lay(0, 0, 501);
        due("read whose first is CELL 0", x.read(0, 2, 0, 1), -20);
        due("read whose first is CELL 1", x.read(0, 2, 1, 1), 1);
    }

    @Holds(in = 40, says = "CELL i of a SHEET becomes v (its lowest bits): 1.")
    static void eachSheetHasItsOwnCells() {
        DiverBottle x = new DiverBottle();
        for (int k = 0; k < 4; k++) x.sheet(k, 2, 3);
        for (int k = 0; k < 4; k++) layAll(x, k, 100 * k, 10 * k, 1);
        for (int k = 0; k < 4; k++) {
            DiverBottle y = new DiverBottle();
            y.saw(100 * k, 10 * k, true);
            x.forget();
            due("read of SHEET " + k, x.read(k, 2, 0, 1), 1);
            due("fits(100, 2)", x.fits(100, 2), y.fits(100, 2));
            x.lay(k, 2, 2);
            due("read of SHEET " + k + " that is not as told", x.read(k, 2, 0, 1), -20);
        }
    }

    @Holds(in = 40, says = "BAD: k;")
    static void layBad() {
        DiverBottle x = new DiverBottle();
        Check.bounds("lay(k, 0, 0)", k -> x.lay(k, 0, 0), 0, 3, BAD);
        due("k ahead of INDEX", x.lay(-1, -1, 0), BAD);
    }

    @Holds(in = 40, says = "-10 less the FAULT: NULL, INDEX.")
    static void layFaults() {
        DiverBottle x = new DiverBottle();
        due("NULL", x.lay(0, 0, 0), -11);
        due("NULL ahead of INDEX", x.lay(0, -1, 0), -11);
        x.sheet(0, 1, 5);
        Check.bounds("lay(0, i, 0)", i -> x.lay(0, i, 0), 0, 4, -12);
        x.sheet(0, 1, 40);
        Check.bounds("lay(0, i, 0)", i -> x.lay(0, i, 0), 0, 39, -12);
        x.sheet(0, 1, 0);
        due("no CELL", x.lay(0, 0, 0), -12);
        // that is no read()
        due("torn()", x.torn(), 0);
    }

    // ---- read

    @Holds(in = 41, says = "n (0 to 12) SEEN (THUMB, DEPTH, 1 or 0) are read of a SHEET taken as of a lane,")
    static void readNoneAnd12() {
        DiverBottle x = new DiverBottle();
        x.sheet(0, 2, 40);
        read(x, 2, 0, 0, 0, 0);
        due("count(2)", x.count(2), 0);
        read(x, 2, 0, 12, 12, 0);
        due("count(2)", x.count(2), 12);
        // no CELL is read: the machine finds nothing, and no room is needed
        read(x, 2, 0, 0, 0, 0);
        read(x, 2, -1, 0, 0, 0);
        read(x, 2, 40, 0, 0, 0);
    }

    @Holds(in = 41, says = "n (0 to 12) SEEN (THUMB, DEPTH, 1 or 0) are read of a SHEET taken as of a lane,")
    static void readOfEachLane() {
        for (int lane = 0; lane < 3; lane++) {
            DiverBottle x = new DiverBottle(), y = new DiverBottle();
            x.sheet(0, lane, 3);
            layAll(x, 0, 100, 50, 1);
            read(x, lane, 0, 1, 1, 0);
            y.saw(100, 50, true);
            for (int what = 0; what < 3; what++) due("fits, lane " + lane, x.fits(500, what), y.fits(500, what));
            for (int other = 0; other < 3; other++) {
                if (other != lane) read(x, other, 0, 1, 0, CAST);
            }
        }
    }

    @Holds(in = 41, says = "three CELLS each from CELL f on: how many came.")
    static void threeCellsEach() {
        DiverBottle x = new DiverBottle(), y = new DiverBottle();
        x.sheet(0, 2, 40);
        for (int i = 0; i < 40; i++) x.lay(0, i, i % 3 == 0 ? 10 * i : i % 3 == 1 ? i : i % 2);
        read(x, 2, 3, 3, 3, 0);
        y.saw(30, 4, true);
        y.saw(60, 7, false);
        y.saw(90, 10, true);
        for (int heavy = 1; heavy < 1000; heavy += 499) {
            for (int what = 0; what < 3; what++) due("fits(" + heavy + ")", x.fits(heavy, what), y.fits(heavy, what));
        }
        due("count(2)", x.count(2), 3);
        // DEPTH 100 alone tells the greatest BUBBLE: below 110000 by 293
        x.forget();
        x.sheet(0, 2, 3);
        layAll(x, 0, 0, 100, 1);
        read(x, 2, 0, 1, 1, 0);
        due("by its DEPTH", x.fits(100, 2), 375);
    }

    @Holds(in = 41, says = "What the machine refuses: those that were whole ahead come (its FAULT is asked by torn()).")
    static void thoseThatWereWholeCome() {
        for (int cells = 0; cells <= 7; cells++) {
            DiverBottle x = new DiverBottle();
            x.sheet(0, 2, cells);
            read(x, 2, 0, 2, Math.min(2, cells / 3), cells < 6 ? INDEX : 0);
            due("count(2), " + cells + " CELLS", x.count(2), Math.min(2, cells / 3));
        }
        DiverBottle last = new DiverBottle();
        last.sheet(0, 2, 40);
        read(last, 2, 37, 1, 1, 0);
        read(last, 2, 37, 2, 1, INDEX);
        read(last, 2, 38, 1, 0, INDEX);
        read(last, 2, 39, 1, 0, INDEX);
        due("count(2)", last.count(2), 2);
    }

    @Holds(in = 41, says = "What the machine refuses: those that were whole ahead come (its FAULT is asked by torn()).")
    static void whatIsNotWholeIsNotLookedAt() {
        // its THUMB is not as told, but its third CELL is not there
        DiverBottle x = new DiverBottle();
        x.sheet(0, 2, 5);
        layAll(x, 0, 1, 1, 1, 501, 101);
        read(x, 2, 0, 2, 1, INDEX);
        // there is no room for it, but it is not whole
        for (int i = 1; i < 12; i++) x.saw(0, 0, true);
        read(x, 2, 3, 1, 0, INDEX);
        due("count(2)", x.count(2), 12);
    }

    @Holds(in = 41, says = "What the machine refuses: those that were whole ahead come (its FAULT is asked by torn()).")
    static void placesThatAreNone() {
        DiverBottle x = new DiverBottle();
        x.sheet(0, 2, 40);
        for (int f : new int[] {-1, -2, -3, 38, 40, Check.MIN, Check.MIN + 1, Check.MAX, Check.MAX - 1, Check.MAX - 2, Check.MAX - 35}) {
            read(x, 2, f, 12, 0, INDEX);
        }
        due("count(2)", x.count(2), 0);
    }

    @Holds(in = 41, says = "What the machine refuses: those that were whole ahead come (its FAULT is asked by torn()).")
    static void nullAheadOfCastAheadOfIndex() {
        DiverBottle x = new DiverBottle();
        for (int lane = 0; lane < 3; lane++) read(x, lane, -1, 1, 0, NULL);
        x.sheet(0, 0, 0);
        read(x, 1, -1, 1, 0, CAST);
        read(x, 0, -1, 1, 0, INDEX);
    }

    @Holds(in = 41, says = "BAD: k, lane, n;")
    static void readBad() {
        DiverBottle x = new DiverBottle();
        for (int k = 0; k < 4; k++) x.sheet(k, 2, 40);
        Check.bounds("read(k, 2, 0, 1)", k -> x.read(k, 2, 0, 1), 0, 3, BAD);
        Check.bounds("read(0, lane, 0, 1)", lane -> x.read(0, lane, 0, 1), 0, 2, BAD);
        x.forget();
        Check.bounds("read(0, 2, 0, n)", n -> x.read(0, 2, 0, n), 0, 12, BAD);
    }

    /** A row with one SEEN that is not as told, behind two that are. */
    private static void notAsTold(int thumb, int depth, int sank) {
        DiverBottle x = bottle("height 50;");
        x.sheet(0, 2, 12);
        layAll(x, 0, 1, 1, 1, 2, 2, 0, thumb, depth, sank);
        String is = thumb + " " + depth + " " + sank;
        due("the third is " + is, x.read(0, 2, 0, 4), -22);
        due("the second is " + is, x.read(0, 2, 3, 4), -21);
        due("the first is " + is, x.read(0, 2, 6, 4), -20);
        due("ahead of it", x.read(0, 2, 0, 2), 2);
        due("count(2)", x.count(2), 2);
    }

    @Holds(in = 41, says = "-20 less i: the i-th, whole, is not as told;")
    static void theIthIsNotAsTold() {
        notAsTold(501, 0, 0);
        notAsTold(-1, 0, 0);
        notAsTold(0, 51, 0);
        notAsTold(0, -1, 0);
        notAsTold(0, 0, 2);
        notAsTold(0, 0, -1);
        notAsTold(Check.MAX, Check.MAX, Check.MAX);
        notAsTold(Check.MIN, Check.MIN, Check.MIN);
        DiverBottle x = bottle("height 50;");
        x.sheet(0, 2, 36);
        layAll(x, 0, 500, 50, 1);
        x.lay(0, 35, 2);
        due("the edges are as told, the 12th is not", x.read(0, 2, 0, 12), -31);
        due("none came", x.count(2), 0);
        due("the edges", x.read(0, 2, 0, 1), 1);
    }

    @Holds(in = 41, says = "FULL: there is no room for it: then none came;")
    static void noRoom() {
        DiverBottle x = new DiverBottle();
        x.sheet(0, 2, 9);
        for (int i = 0; i < 10; i++) x.saw(500, 0, true);
        due("three, room for two", x.read(0, 2, 0, 3), FULL);
        due("none came", x.count(2), 10);
        due("nothing but those ten", x.fits(100, 1), 0);
        due("two, room for two", x.read(0, 2, 0, 2), 2);
        due("one, no room", x.read(0, 2, 0, 1), FULL);
        due("none, no room", x.read(0, 2, 0, 0), 0);
        due("count(2)", x.count(2), 12);
    }

    @Holds(in = 41, says = "the first met.")
    static void theFirstMet() {
        DiverBottle x = new DiverBottle();
        x.sheet(0, 2, 7);
        layAll(x, 0, 0, 0, 0, 501, 0, 0, 0);
        for (int i = 0; i < 11; i++) x.saw(500, 0, true);
        due("the second is not as told, and has no room", x.read(0, 2, 0, 3), -21);
        x.lay(0, 3, 0);
        due("the second has no room, the third is not whole", x.read(0, 2, 0, 3), FULL);
        x.sheet(0, 2, 9);
        x.lay(0, 6, 501);
        due("the second has no room, the third is not as told", x.read(0, 2, 0, 3), FULL);
        x.lay(0, 0, 501);
        due("the first is not as told, the second has no room", x.read(0, 2, 0, 3), -20);
        x.forget();
        x.sheet(0, 2, 4);
        x.lay(0, 0, 501);
        due("the first is not as told, the second is not whole", x.read(0, 2, 0, 2), -20);
    }

    // ---- torn

    @Holds(in = 42, says = "The FAULT of the latest read() that came to an end;")
    static void tornOfTheLatest() {
        DiverBottle x = new DiverBottle();
        read(x, 0, 0, 1, 0, NULL);
        due("asked once more", x.torn(), NULL);
        due("BAD", x.read(0, 0, 0, 13), BAD);
        due("behind BAD", x.torn(), NULL);
        x.sheet(0, 2, 3);
        x.lay(0, 0, 501);
        due("not as told", x.read(0, 2, 0, 1), -20);
        due("behind what is not as told", x.torn(), NULL);
        x.lay(0, 0, 0);
        for (int i = 0; i < 12; i++) x.saw(0, 0, true);
        due("FULL", x.read(0, 2, 0, 1), FULL);
        due("behind FULL", x.torn(), NULL);
        x.forget();
        x.lay(0, 9, 0);
        x.sheet(0, 0, -1);
        due("behind lay() and sheet() that are refused", x.torn(), NULL);
        read(x, 2, 0, 2, 1, INDEX);
        read(x, 1, 0, 1, 0, CAST);
    }

    @Holds(in = 42, says = "0.")
    static void tornZero() {
        DiverBottle x = new DiverBottle();
        due("at first", x.torn(), 0);
        read(x, 0, 0, 1, 0, NULL);
        x.sheet(0, 2, 3);
        read(x, 2, 0, 1, 1, 0);
        read(x, 2, 1, 1, 0, INDEX);
        read(x, 2, 0, 0, 0, 0);
    }

    // ---- count

    @Holds(in = 43, says = "How many: 0 DIVERS, 1 HOOKS, 2 SEEN, 3 IMAGES, 4 bytes on THE TAPE,")
    static void noneAndAll() {
        DiverBottle x = new DiverBottle();
        for (int what = 0; what < 5; what++) due("count(" + what + ") at first", x.count(what), 0);
        Check.tell(x, "diver 1 1 hook;".repeat(6));
        due("count(0)", x.count(0), 6);
        due("count(1)", x.count(1), 6);
        Check.tell(x, "diver 1 1;diver 1 1;diver 1 1 hook;");
        due("count(0) of three", x.count(0), 3);
        due("count(1) of one", x.count(1), 1);
        for (int i = 0; i < 13; i++) x.saw(0, 0, true);
        due("count(2)", x.count(2), 12);
        x.keep(1);
        due("count(3), IMAGE 1", x.count(3), 1);
        x.keep(1);
        due("count(3), IMAGE 1 anew", x.count(3), 1);
        x.keep(0);
        due("count(3)", x.count(3), 2);
        for (int i = 0; i < 41; i++) x.feed(0L);
        due("count(4)", x.count(4), 320);
        x.end(7);
        due("count(4) behind end(7)", x.count(4), 7);
    }

    @Holds(in = 43, says = "5 CELLS of SHEET 0 (NONE: nothing).")
    static void cellsOfSheet0() {
        DiverBottle x = new DiverBottle();
        due("nothing", x.count(5), NONE);
        x.sheet(1, 0, 5);
        due("SHEET 1 is not SHEET 0", x.count(5), NONE);
        x.sheet(0, 0, 0);
        due("no CELLS", x.count(5), 0);
        x.sheet(0, 2, 40);
        due("all", x.count(5), 40);
    }

    @Holds(in = 43, says = "BAD.")
    static void countBad() {
        DiverBottle x = new DiverBottle();
        Check.bounds("count(what)", what -> x.count(what), 0, 5, BAD);
    }
}
