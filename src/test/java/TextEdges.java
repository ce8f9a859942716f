/** 'Terms': THE TAPE, TOKENS, lines, FAULTS, a text that is taken. */
final class TextEdges {
    private static final int STATE = Check.STATE;
    private static final String SIX = "diver 1 1;".repeat(6);
    private static final String[] RULE_LINES = {"height 50;", "air 900;", "warm 300;", "drag 5;", "salt 5 5;", "ring 5;"};

    private TextEdges() {
    }

    private static void due(String call, long got, long want) {
        Check.due(call, got, want);
    }

    private static void taken(String text, int lines) {
        Check.taken(text, lines);
    }

    private static void faulty(String marked, int fault) {
        Check.faulty(marked, fault);
    }

    private static DiverBottle bottle(String text) {
        return Check.bottle(text);
    }

    // ---- THE TAPE

    @Holds(says = "THE TAPE has 320 bytes, places from 0.")
    static void tapeHas320Bytes() {
        DiverBottle x = new DiverBottle();
        for (int i = 1; i < 40; i++) x.feed(0x2020202020202020L);
        due("feed, the last eight", x.feed(0x2072696e6720373bL), 320);
        due("text() that ends at the last byte", x.text(), 1);
        due("rule(6)", x.rule(6), 7);
    }

    @Holds(says = "THE TAPE has 320 bytes, places from 0.")
    static void placesFromZeroTo320() {
        faulty("^,", 1);
        faulty(" ".repeat(319) + "^,", 1);
        faulty(" ".repeat(316) + "drag^", 2);
    }

    // ---- TOKENS

    @Holds(says = "TOKENS, each as long as may be,")
    static void tokensAreAsLongAsMayBe() {
        taken("drag5;air900;", 2);
        due("drag12", bottle("drag12;").rule(3), 12);
        taken("diver 1 1leak5rate6hook;", 1);
        faulty("^dragdrag 5;", 2);
        faulty("diver 1 1 ^hookhook;", 2);
        faulty("diver 1 1 ^hookleak 5;", 2);
        // 12 and 34 would be whole
        faulty("diver ^12345;", 1);
    }

    @Holds(says = "blanks (32) between:")
    static void blanksBetween() {
        taken("   drag   5   ;   ", 1);
        taken(" ", 0);
        faulty("^dr ag 5;", 2);
        faulty("drag 1 ^2;", 2);
        for (char c : new char[] {0, 9, 10, 13, 31, 33, 160}) faulty("drag^" + c + "5;", 1);
    }

    @Holds(says = "NAMES (a .. z)")
    static void namesAreOfSmallLetters() {
        faulty("^a", 2);
        faulty("^z", 2);
        for (char c : new char[] {96, 123, 'A', 'Z', '_', '-', 225}) {
            faulty("^" + c, 1);
            faulty("drag^" + c + " 5;", 1);
            faulty("ring 5;^" + c + "drag 5;", 1);
        }
    }

    @Holds(says = "NUMBERS (1 to 4 figures)")
    static void numbersOfOneToFourFigures() {
        due("1 figure", bottle("drag 9;").rule(3), 9);
        due("4 figures", bottle("drag 0009;").rule(3), 9);
        due("4 figures, the greatest", bottle("diver 1 9999;").diver(0, 1), 9999);
        faulty("drag ^00009;", 1);
        faulty("drag^;", 2);
        for (char c : new char[] {47, 58, '-', '+', '.'}) faulty("drag ^" + c + ";", 1);
    }

    @Holds(says = "one ; .")
    static void oneStop() {
        faulty("drag 5;^;", 2);
        faulty("^;", 2);
        faulty("^;;", 2);
        faulty("drag 5^:", 1);
    }

    // ---- lines

    @Holds(says = "text: { line }")
    static void textOfNoLineAndOfMany() {
        taken("", 0);
        taken("drag 5;", 1);
        StringBuilder all = new StringBuilder("height10;air800;warm250;drag1;salt0 0;ring0;diver1 1;diver1 1;");
        for (int h = 0; h < 24; h++) all.append("hour").append(h).append(" 250;");
        due("bytes", all.length(), 316);
        taken(all.toString(), 32);
        taken(all + "    ", 32);
    }

    /** A line of one NUMBER: none, one too many, no end. */
    private static void lineOfOne(String name, int number) {
        taken(name + " " + number + ";", 1);
        faulty(name + "^;", 2);
        faulty(name + "^", 2);
        faulty(name + " " + number + "^", 2);
        faulty(name + " " + number + " ^" + number + ";", 2);
        faulty(name + " ^" + name + ";", 2);
        faulty(name + " " + number + " ^" + name + ";", 2);
    }

    @Holds(says = "line: height N ;")
    static void lineHeight() {
        lineOfOne("height", 10);
    }

    @Holds(says = "| air N ;")
    static void lineAir() {
        lineOfOne("air", 800);
    }

    @Holds(says = "| warm N ;")
    static void lineWarm() {
        lineOfOne("warm", 250);
    }

    @Holds(says = "| drag N ;")
    static void lineDrag() {
        lineOfOne("drag", 1);
    }

    @Holds(says = "| ring N ;")
    static void lineRing() {
        lineOfOne("ring", 0);
    }

    /** A line of two NUMBERS: none, one, one too many, no end. */
    private static void lineOfTwo(String name, int first, int second) {
        taken(name + " " + first + " " + second + ";", 1);
        faulty(name + "^;", 2);
        faulty(name + " " + first + "^;", 2);
        faulty(name + " " + first + "^", 2);
        faulty(name + " " + first + " " + second + "^", 2);
        faulty(name + " " + first + " " + second + " ^0;", 2);
    }

    @Holds(says = "| salt N N ;")
    static void lineSalt() {
        lineOfTwo("salt", 0, 0);
    }

    @Holds(says = "| hour N N ;")
    static void lineHour() {
        lineOfTwo("hour", 0, 250);
    }

    @Holds(says = "| diver N N { with } ;")
    static void lineDiver() {
        lineOfTwo("diver", 1, 0);
        taken("diver 1 0 leak 0 rate 0 hook;", 1);
        taken("diver 1 0 hook rate 0 leak 0;", 1);
    }

    @Holds(says = "with: leak N | rate N | hook")
    static void withs() {
        for (String name : new String[] {"leak", "rate"}) {
            faulty("diver 1 0 " + name + "^;", 2);
            faulty("diver 1 0 " + name + "^", 2);
            faulty("diver 1 0 " + name + " 5 ^5;", 2);
            faulty("diver 1 0 " + name + " ^hook;", 2);
        }
        faulty("diver 1 0 hook ^5;", 2);
        faulty("diver 1 0 hook^", 2);
        faulty("diver 1 0 ^5;", 2);
    }

    @Holds(says = "salt: salt, more.")
    static void saltComesFirst() {
        DiverBottle x = bottle("salt 7 8;");
        due("rule(4)", x.rule(4), 7);
        due("rule(5)", x.rule(5), 8);
        taken("salt 201 99;", 1);
        faulty("salt ^202 99;", 3);
        faulty("salt 99 ^100;", 3);
    }

    @Holds(says = "hour: an HOUR (0 to 23), its WARMTH (250 to 350);")
    static void hourAndItsWarmth() {
        DiverBottle x = bottle("hour 0 250;hour 23 350;");
        due("rule(10)", x.rule(10), 250);
        due("rule(33)", x.rule(33), 350);
        faulty("hour ^24 300;", 3);
        faulty("hour 0 ^249;", 3);
        faulty("hour 0 ^351;", 3);
    }

    @Holds(says = "those that are not told have warm as it is told.")
    static void hoursThatAreNotTold() {
        for (int h = 0; h < 24; h++) due("at first, HOUR " + h, new DiverBottle().rule(10 + h), 293);
        DiverBottle x = bottle("hour 3 260;warm 350;");
        due("rule(13)", x.rule(13), 260);
        due("HOUR 0, warm told behind it", x.rule(10), 350);
        due("HOUR 23", x.rule(33), 350);
        x.warm(250);
        due("HOUR 0 is as told, not as warm became", x.rule(10), 350);
        Check.tell(x, "drag 5;");
        due("HOUR 3, told no more", x.rule(13), 293);
    }

    @Holds(says = "diver: HEAVY, BUBBLE.")
    static void heavyComesFirst() {
        DiverBottle x = bottle("diver 7 8;");
        due("diver(0, 0)", x.diver(0, 0), 7);
        due("diver(0, 1)", x.diver(0, 1), 8);
        taken("diver 999 9999;", 1);
        taken("diver 1 0;", 1);
        faulty("diver ^0 0;", 3);
        faulty("diver ^1000 0;", 3);
    }

    // ---- FAULTS

    @Holds(says = "FAULTS, the first met as it is read (a TOKEN is read when the one before has been taken):")
    static void theFirstFaultMet() {
        faulty("height ^9;air 9;", 3);
        faulty("drag ^65,", 3);
        faulty("drag ^65", 3);
        faulty("drag 5^,drag 65;", 1);
        faulty("^bogus,", 2);
        faulty("drag 5;^drag,", 4);
        faulty("hour ^24,", 3);
        faulty("hour 3 260;hour ^3,", 4);
        faulty("hour 3 260;hour ^3 ;", 4);
        faulty("diver 1 1 hook ^hook,", 4);
        faulty("diver 1 1 ^bogus,", 2);
        faulty("diver ^0 12345;", 3);
        faulty("diver 1 1 leak 5 ^leak 100;", 4);
        faulty(SIX + "^diver,", 5);
        faulty(SIX + "^diver 0 1;", 5);
        // a NUMBER that is too long is no TOKEN, wherever it stands
        faulty("^12345", 1);
        faulty("drag 5 ^12345", 1);
        faulty("diver 1 1 ^12345", 1);
    }

    @Holds(says = "1 no TOKEN,")
    static void everyByteAlone() {
        for (char c = 0; c < 256; c++) {
            boolean token = (c >= 'a' && c <= 'z') || (c >= '0' && c <= '9') || c == ';';
            if (c == ' ') taken(" ", 0);
            else if (c != '^') faulty("^" + c, token ? 2 : 1);
        }
        DiverBottle x = new DiverBottle();
        due("text() of byte 94", Check.tell(x, "^"), -10);
        due("fault() of byte 94", x.fault(), 1);
    }

    @Holds(says = "1 no TOKEN,")
    static void noTokenWithinALine() {
        faulty("drag^, 5;", 1);
        faulty("drag ^,5;", 1);
        faulty("drag 5^,;", 1);
        faulty("drag 5;^,", 1);
        faulty("diver 1 1 ^,;", 1);
        faulty("diver 1 1 leak ^,;", 1);
    }

    @Holds(says = "a NUMBER that is too long (its first byte).")
    static void numbersThatAreTooLong() {
        faulty("diver 1 ^10000;", 1);
        faulty("diver 1 ^00000;", 1);
        taken("diver 1 0000;", 1);
        faulty("diver ^" + "1".repeat(300) + " 1;", 1);
        faulty("^" + "0".repeat(320), 1);
    }

    @Holds(says = "2 a TOKEN that can not stand there")
    static void tokensThatCanNotStandThere() {
        faulty("^5;", 2);
        faulty("^;", 2);
        faulty("drag ^;", 2);
        faulty("drag ^air 5;", 2);
        faulty("drag 5 ^air 900;", 2);
        faulty("drag 5 ^6;", 2);
        faulty("diver 1 1 ^1;", 2);
    }

    @Holds(says = "(a NAME that begins no line,")
    static void namesThatBeginNoLine() {
        for (String name : new String[] {"leak", "rate", "hook", "more", "heavy", "heigh", "heights", "ai", "airs", "war",
            "warms", "dra", "drags", "sal", "salts", "rin", "rings", "hou", "hours", "dive", "divers", "krag", "h"}) {
            faulty("^" + name + " 5;", 2);
        }
        faulty("^" + "a".repeat(320), 2);
    }

    @Holds(says = "is no with;")
    static void namesThatAreNoWith() {
        for (String name : new String[] {"drag", "diver", "lea", "leaks", "rat", "rates", "hoo", "hooks", "l"}) {
            faulty("diver 1 1 ^" + name + " 5;", 2);
            faulty("diver 1 1 hook ^" + name + " 5;", 2);
        }
        faulty("drag 5 ^hook;", 2);
    }

    @Holds(says = "or the end: the length).")
    static void theEnd() {
        faulty("drag^", 2);
        faulty("drag  ^", 2);
        faulty("drag 5^", 2);
        faulty("drag 5  ^", 2);
        faulty("diver 1 1^", 2);
        faulty("diver 1 1 hook leak 5^", 2);
        faulty(" ".repeat(312) + "drag 5  ^", 2);
        taken("drag 5;  ", 1);
    }

    @Holds(says = "3 a NUMBER out of its bounds.")
    static void numbersOutOfTheirBounds() {
        String[] least = {"height ^9;", "air ^799;", "warm ^249;", "drag ^0;", "hour 0 ^249;", "diver ^0 1;"};
        String[] most = {"height ^201;", "air ^1201;", "warm ^351;", "drag ^65;", "salt ^202 0;", "salt 0 ^100;", "ring ^1000;",
            "hour ^24 300;", "hour 0 ^351;", "diver ^1000 1;", "diver 1 1 leak ^100;", "diver 1 1 rate ^100;"};
        for (String line : least) faulty(line, 3);
        for (String line : most) faulty(line, 3);
        for (String line : most) faulty(line.replaceFirst("\\^\\d+", "^9999"), 3);
    }

    @Holds(says = "4 an HOUR for the second time (it);")
    static void anHourForTheSecondTime() {
        faulty("hour 0 260;hour ^0 260;", 4);
        faulty("hour 23 260;hour ^23 300;", 4);
        faulty("hour 3 260;drag 5;hour ^0003 260;", 4);
        faulty("hour 3 260;hour 4 260;hour ^3 260;", 4);
        taken("hour 3 260;hour 4 260;", 2);
        // a text that was refused, or taken, told it before
        DiverBottle x = new DiverBottle();
        Check.tell(x, "hour 3 260;,");
        due("told behind a FAULT", Check.tell(x, "hour 3 270;"), 1);
        due("told anew", Check.tell(x, "hour 3 280;"), 1);
        due("rule(13)", x.rule(13), 280);
    }

    @Holds(says = "a with, any other line but diver for the second time (its NAME).")
    static void aWithForTheSecondTime() {
        faulty("diver 1 1 leak 5 ^leak 5;", 4);
        faulty("diver 1 1 leak 0 ^leak 0;", 4);
        faulty("diver 1 1 rate 5 ^rate 5;", 4);
        faulty("diver 1 1 rate 0 hook ^rate;", 4);
        faulty("diver 1 1 hook ^hook;", 4);
        faulty("diver 1 1 hook leak 1 rate 1 ^hook;", 4);
        faulty("diver 1 1 hook leak 1 rate 1 ^leak 1;", 4);
        faulty("diver 1 1 hook leak 1 rate 1 ^rate 1;", 4);
        // each DIVER has his own
        taken("diver 1 1 leak 5 rate 5 hook;diver 1 1 leak 5 rate 5 hook;", 2);
    }

    @Holds(says = "a with, any other line but diver for the second time (its NAME).")
    static void anyOtherLineForTheSecondTime() {
        for (String line : RULE_LINES) {
            faulty(line + "^" + line, 4);
            faulty(line + "hour 3 260;diver 1 1;^" + line, 4);
            DiverBottle x = new DiverBottle();
            Check.tell(x, line + ",");
            due(line + " told behind a FAULT", Check.tell(x, line), 1);
            due(line + " told anew", Check.tell(x, line), 1);
        }
        // the least and the first numbers are told too
        faulty("ring 0;^ring 0;", 4);
        faulty("salt 201 0;^salt 201 0;", 4);
        taken("diver 1 1;diver 1 1;", 2);
        taken(String.join("", RULE_LINES), 6);
    }

    @Holds(says = "5 the 7th DIVER (its NAME).")
    static void theSeventhDiver() {
        taken(SIX, 6);
        faulty(SIX + "^diver 1 1;", 5);
        faulty(SIX + "drag 5;  ^diver", 5);
        DiverBottle x = new DiverBottle();
        Check.tell(x, SIX + "diver");
        due("six behind a FAULT", Check.tell(x, SIX), 6);
        due("six anew", Check.tell(x, SIX), 6);
    }

    // ---- a text that is taken

    /** All that a text can make other than it was. */
    private static DiverBottle used() {
        DiverBottle x = bottle("height 20;air 900;warm 300;drag 64;salt 5 5;ring 5;hour 3 260;diver 65 0 hook leak 5 rate 5;");
        x.thumb(7);
        x.warm(310);
        x.go(3);
        x.saw(1, 1, true);
        x.keep(0);
        x.keep(1);
        return x;
    }

    @Holds(says = "A text that is taken tells all, in place of what there was:")
    static void anEmptyTextIsANewBottle() {
        DiverBottle x = used(), fresh = new DiverBottle();
        due("text() of nothing", x.text(), 0);
        for (int i = 0; i < 7; i++) due("rule(" + i + ")", x.rule(i), fresh.rule(i));
        for (int h = 0; h < 24; h++) due("rule(10 + " + h + ")", x.rule(10 + h), 293);
        for (int i = 0; i < 6; i++) due("now(" + i + ")", x.now(i), 0);
        for (int i = 0; i < 5; i++) due("count(" + i + ")", x.count(i), 0);
    }

    @Holds(says = "A text that is taken tells all, in place of what there was:")
    static void theRingLiesThereAndWasNeverFetched() {
        DiverBottle x = bottle("height 10;ring 1;diver 100 360 hook;");
        x.thumb(500);
        x.go(99);
        x.thumb(0);
        x.go(300);
        due("FETCHED before", x.now(5), 1);
        due("on the floor before", x.now(4), 0);
        Check.tell(x, "ring 2;");
        due("FETCHED", x.now(5), 0);
        due("on the floor", x.now(4), 1);
        due("drop()", x.drop(), 0);
    }

    @Holds(says = "DIVERS are at DEPTH 0, their PACE 0;")
    static void diversAreAtTheTop() {
        DiverBottle x = used();
        due("FINE DEPTH before", x.diver(0, 7) > 0 ? 1 : 0, 1);
        due("PACE before", x.diver(0, 8) > 0 ? 1 : 0, 1);
        Check.tell(x, "diver 65 0 hook;diver 65 0;");
        for (int k = 0; k < 2; k++) {
            for (int what = 5; what < 9; what++) due("diver(" + k + ", " + what + ")", x.diver(k, what), 0);
        }
        due("now(2)", x.now(2), 3);
    }

    @Holds(says = "THUMB 0, TICK 0,")
    static void thumbAndTickAreZero() {
        DiverBottle x = used();
        due("now(1) before", x.now(1), 7);
        due("now(0) before", x.now(0), 3);
        Check.tell(x, "diver 5 0;");
        due("now(1)", x.now(1), 0);
        due("now(0)", x.now(0), 0);
        due("press(0)", x.press(0), 1000);
    }

    @Holds(says = "nothing SEEN;")
    static void nothingIsSeen() {
        DiverBottle x = used();
        due("count(2) before", x.count(2), 1);
        Check.tell(x, "diver 5 0;");
        due("count(2)", x.count(2), 0);
        due("fits(100, 0)", x.fits(100, 0), 10000);
        due("saw(0, 0, true)", x.saw(0, 0, true), 1);
    }

    @Holds(says = "IMAGES are gone.")
    static void imagesAreGone() {
        DiverBottle x = used();
        due("count(3) before", x.count(3), 2);
        Check.tell(x, "diver 5 0;");
        due("count(3)", x.count(3), 0);
        for (int i = 0; i < 2; i++) due("restore(" + i + ")", x.restore(i), STATE);
        for (int i = 0; i < 2; i++) due("keep(" + i + ")", x.keep(i), 0);
    }
}
