import java.util.ArrayList;
import java.util.List;
import java.util.Random;
import java.util.TreeMap;
import java.util.TreeSet;

/** Runs of calls by seeds: DiverBottle answers each as PlainBottle does, which tries everything there is. */
public final class RandomRunsTest {
    private static final int RUNS = Integer.getInteger("runs", 400), CALLS = 512;
    private static int wrong = 0;

    private final Random random;
    private final int run;
    private final DiverBottle x = new DiverBottle();
    private final PlainBottle y = new PlainBottle();
    private final List<String> told = new ArrayList<>();
    private boolean off = false;

    private static final TreeMap<String, TreeSet<String>> MET = new TreeMap<>();

    private RandomRunsTest(int run) {
        this.run = run;
        random = new Random(run);
    }

    public static void main(String[] args) {
        for (int run = 1; run <= RUNS && wrong < 5; run++) new RandomRunsTest(run).go();
        if (Boolean.getBoolean("met")) MET.forEach((k, v) -> System.out.println(k + " " + v));
        System.out.println(wrong == 0 ? RUNS + " runs are as the plain bottle's" : wrong + " runs are not");
        if (wrong != 0) System.exit(1);
    }

    private static String kind(int answer) {
        if (answer == -1000000) return "BAD";
        if (answer >= -4 && answer < 0) return new String[] {"NONE", "FULL", "STATE", "BAD"}[answer + 4];
        if (answer <= -20) return "<=-20";
        if (answer <= -10) return "" + answer;
        return answer == 0 ? "0" : answer > 0 ? ">0" : "<0";
    }

    private void due(String call, int got, int want) {
        told.add(call + " = " + want);
        MET.computeIfAbsent(call.replaceFirst("(?s)\\(.*", ""), k -> new TreeSet<>()).add(kind(want));
        if (got == want || off) return;
        off = true;
        wrong++;
        System.out.println("run " + run + ": " + call + " answered " + got + ", due is " + want + " behind");
        for (String t : told) System.out.println("  " + t);
    }

    private int in(int least, int most) {
        return least + random.nextInt(most - least + 1);
    }

    /** Mostly within, at times an edge, at times beyond it. */
    private int near(int least, int most) {
        switch (in(0, 29)) {
            case 0: return least - 1;
            case 1: return most + 1;
            case 2: case 3: return least;
            case 4: case 5: return most;
            case 6: return random.nextInt(8) == 0 ? random.nextInt() : in(least, most);
            case 7: return random.nextInt(8) == 0 ? (random.nextBoolean() ? Integer.MAX_VALUE : Integer.MIN_VALUE) : least;
            default: return in(least, most);
        }
    }

    private int diverNumber() {
        return random.nextInt(20) == 0 ? near(0, 5) : in(0, Math.max(0, y.count(0) - 1));
    }

    private int depthNumber() {
        return near(0, y.rule(0));
    }

    private int thumbNumber() {
        return random.nextInt(3) == 0 ? 0 : random.nextBoolean() ? near(0, 120) : near(0, 500);
    }

    private int heavyNumber() {
        return random.nextBoolean() && y.count(0) > 0 ? y.diver(in(0, y.count(0) - 1), 0) : near(1, 999);
    }

    // ---- texts

    private String diverLine(int air, int warm) {
        int heavy = random.nextInt(8) == 0 ? near(1, 999) : random.nextInt(6) == 0 ? in(800, 999) : in(5, 400);
        int bubble = random.nextInt(8) == 0 ? near(0, 9999) : heavy * air / warm + in(-20, 60);
        StringBuilder line = new StringBuilder("diver " + Math.abs(heavy) + " " + Math.abs(bubble));
        List<String> withs = new ArrayList<>();
        if (random.nextInt(3) == 0) withs.add(" leak " + near(0, random.nextBoolean() ? 9 : 99));
        if (random.nextInt(3) == 0) withs.add(" rate " + near(0, 99));
        if (random.nextInt(2) == 0) withs.add(" hook");
        if (random.nextInt(60) == 0 && !withs.isEmpty()) withs.add(withs.get(0));
        java.util.Collections.shuffle(withs, random);
        for (String w : withs) line.append(w);
        return line + ";";
    }

    private String newText() {
        if (in(0, 40) == 0) return " ".repeat(in(0, 3));
        List<String> lines = new ArrayList<>();
        int height = in(0, 2) == 0 ? 100 : in(10, 200), air = in(0, 2) == 0 ? 1000 : in(800, 1200);
        int warm = in(0, 2) == 0 ? 293 : in(250, 350);
        if (height != 100) lines.add("height " + height + ";");
        if (air != 1000) lines.add("air " + air + ";");
        if (warm != 293) lines.add("warm " + warm + ";");
        if (in(0, 1) == 0) lines.add("drag " + in(1, 64) + ";");
        if (in(0, 1) == 0) lines.add("salt " + (in(0, 9) == 0 ? near(0, 201) : in(0, height)) + " " + near(0, random.nextBoolean() ? 9 : 99) + ";");
        if (in(0, 2) > 0) lines.add("ring " + (in(0, 5) == 0 ? in(0, 999) : in(0, 12)) + ";");
        for (int i = in(0, 3) - 1; i > 0; i--) lines.add("hour " + in(0, 23) + " " + Math.max(250, Math.min(350, warm + in(-30, 30))) + ";");
        for (int i = in(0, 11) == 0 ? in(0, 7) : in(1, 5); i > 0; i--) lines.add(diverLine(air, warm));
        java.util.Collections.shuffle(lines, random);
        StringBuilder text = new StringBuilder();
        for (String l : lines) text.append(l).append(" ".repeat(in(0, 3) == 0 ? in(0, 2) : 0));
        return random.nextInt(3) == 0 ? spoil(text.toString()) : text.toString();
    }

    private String spoil(String text) {
        StringBuilder s = new StringBuilder(text);
        for (int i = in(1, 2); i > 0 && s.length() > 0; i--) {
            int at = in(0, s.length() - 1);
            String odd = " ;;0915azlh,\n\u00e9";
            switch (in(0, 4)) {
                case 0: s.setCharAt(at, odd.charAt(in(0, odd.length() - 1))); break;
                case 1: s.insert(at, odd.charAt(in(0, odd.length() - 1))); break;
                case 2: s.deleteCharAt(at); break;
                case 3: s.setLength(at); break;
                default: s.insert(at, s.substring(at, Math.min(s.length(), at + in(1, 12))));
            }
        }
        return s.toString();
    }

    private void feedText(String text) {
        due("end(0)", x.end(0), y.end(0));
        String padded = text + " ".repeat((8 - text.length() % 8) % 8);
        if (padded.length() > 320) {
            padded = padded.substring(0, 320);
            text = text.substring(0, Math.min(text.length(), 320));
        }
        for (int i = 0; i < padded.length(); i += 8) {
            long v = 0;
            for (int j = 0; j < 8; j++) v = v << 8 | padded.charAt(i + j);
            due("feed(" + v + ")", x.feed(v), y.feed(v));
        }
        due("end(" + text.length() + ") of \"" + text + "\"", x.end(text.length()), y.end(text.length()));
        due("text()", x.text(), y.text());
        due("fault()", x.fault(), y.fault());
    }

    // ---- runs

    private void go() {
        feedText(newText());
        while (told.size() < CALLS - 60 && !off) call();
        for (int what = -1; what <= 34 && !off; what++) due("rule(" + what + ")", x.rule(what), y.rule(what));
    }

    private void call() {
        int pick = in(0, 103);
        if (pick < 20) ticks();
        else if (pick < 40) weights();
        else if (pick < 46) whichBubble();
        else if (pick < 60) hand();
        else if (pick < 75) canBe();
        else if (pick < 100) sheets();
        else if (pick == 100) feedText(newText());
        else tape();
    }

    private void tape() {
        if (random.nextBoolean()) {
            int n = near(0, Math.max(0, y.count(4)));
            due("end(" + n + ")", x.end(n), y.end(n));
        } else if (random.nextInt(4) == 0) {
            for (int i = 0; i < 42 && told.size() < CALLS - 60; i++) due("feed(7)", x.feed(7), y.feed(7));
        } else {
            long v = random.nextLong();
            due("feed(" + v + ")", x.feed(v), y.feed(v));
        }
    }

    private void ticks() {
        int k = diverNumber(), v;
        switch (in(0, 9)) {
            case 0: v = thumbNumber(); due("thumb(" + v + ")", x.thumb(v), y.thumb(v)); break;
            case 1: v = in(0, 3) > 0 ? Math.max(250, Math.min(350, y.rule(2) + in(-5, 5))) : near(250, 350); due("warm(" + v + ")", x.warm(v), y.warm(v)); break;
            case 2: v = depthNumber(); due("set(" + k + ", " + v + ")", x.set(k, v), y.set(k, v)); break;
            case 3: due("drop()", x.drop(), y.drop()); break;
            case 4: v = near(1, 999); due("go(" + v + ")", x.go(v), y.go(v)); break;
            default: v = near(1, 60); due("go(" + v + ")", x.go(v), y.go(v));
        }
        v = near(0, 5);
        due("now(" + v + ")", x.now(v), y.now(v));
        for (int i = 0; i < 2; i++) {
            int w = near(0, 9);
            due("diver(" + k + ", " + w + ")", x.diver(k, w), y.diver(k, w));
        }
    }

    private void weights() {
        int k = diverNumber(), d = depthNumber(), t = thumbNumber();
        switch (in(0, 8)) {
            case 0: due("press(" + d + ")", x.press(d), y.press(d)); break;
            case 1: due("weighs(" + k + ", " + d + ", " + t + ")", x.weighs(k, d, t), y.weighs(k, d, t)); break;
            case 2: due("turning(" + k + ", " + t + ")", x.turning(k, t), y.turning(k, t)); break;
            case 3: due("holding(" + k + ", " + t + ")", x.holding(k, t), y.holding(k, t)); break;
            case 4: due("back(" + k + ")", x.back(k), y.back(k)); break;
            case 5: due("goesAt(" + k + ")", x.goesAt(k), y.goesAt(k)); break;
            case 6: due("order(" + k + ")", x.order(k), y.order(k)); break;
            case 7: due("apart()", x.apart(), y.apart()); break;
            default: due("lifts(" + k + ")", x.lifts(k), y.lifts(k));
        }
    }

    private void whichBubble() {
        int h = heavyNumber(), t = thumbNumber(), w = near(0, 2), n = near(2, 6);
        switch (in(0, 7)) {
            case 0: due("atThumb(" + h + ", " + t + ", " + w + ")", x.atThumb(h, t, w), y.atThumb(h, t, w)); break;
            case 1: due("spread(" + h + ", " + n + ", " + w + ")", x.spread(h, n, w), y.spread(h, n, w)); break;
            default: due("bubbles(" + h + ", " + t + ", " + w + ")", x.bubbles(h, t, w), y.bubbles(h, t, w));
        }
    }

    private void hand() {
        int k = diverNumber(), d = near(1, y.rule(0) - 1), t = thumbNumber(), s = near(1, 50), n = near(1, 999);
        int late = near(0, 50), w = near(0, 1), to = depthNumber(), b = near(0, 9999), g = near(1, 99);
        if (in(0, 2) > 0 && y.turning(k, 0) > 0) {
            d = y.turning(k, 0) - in(0, 5);
            t = in(0, 10);
            late = in(0, 5);
        }
        switch (in(0, 10)) {
            case 0: due("late(" + k + ", " + d + ", " + t + ", " + s + ", " + n + ")", x.late(k, d, t, s, n), y.late(k, d, t, s, n)); break;
            case 1: due("step(" + k + ", " + d + ", " + t + ", " + late + ", " + n + ", " + w + ")", x.step(k, d, t, late, n, w), y.step(k, d, t, late, n, w)); break;
            case 2: case 3: due("hours(" + k + ", " + w + ")", x.hours(k, w), y.hours(k, w)); break;
            case 4: due("trips(" + k + ")", x.trips(k), y.trips(k)); break;
            case 5: due("bladder(" + k + ", " + d + ", " + to + ", " + w + ")", x.bladder(k, d, to, w), y.bladder(k, d, to, w)); break;
            case 6: due("bladder(" + k + ", " + d + ", " + (d + 1) + ", " + w + ")", x.bladder(k, d, d + 1, w), y.bladder(k, d, d + 1, w)); break;
            case 7:
                if (y.diver(k, 1) > 20 && in(0, 3) > 0) b = y.diver(k, 1) - in(0, 20);
                due("beats(" + k + ", " + b + ", " + g + ", " + w + ")", x.beats(k, b, g, w), y.beats(k, b, g, w));
                break;
            default:
                w = near(0, 3);
                due("hold(" + k + ", " + d + ", " + t + ", " + late + ", " + s + ", " + n + ", " + w + ")",
                    x.hold(k, d, t, late, s, n, w), y.hold(k, d, t, late, s, n, w));
        }
    }

    private void canBe() {
        int t = thumbNumber(), d = depthNumber(), k = diverNumber(), h = heavyNumber(), w = near(0, 2), i = near(0, 1);
        boolean sank = in(0, 4) > 0 ? y.weighs(k, d, t) > 0 : random.nextBoolean();
        switch (in(0, 9)) {
            case 0: case 1: case 2: due("saw(" + t + ", " + d + ", " + sank + ")", x.saw(t, d, sank), y.saw(t, d, sank)); break;
            case 3: if (in(0, 2) == 0) due("forget()", x.forget(), y.forget()); break;
            case 4: case 5: due("fits(" + h + ", " + w + ")", x.fits(h, w), y.fits(h, w)); break;
            case 6: due("keep(" + i + ")", x.keep(i), y.keep(i)); break;
            case 7: due("restore(" + i + ")", x.restore(i), y.restore(i)); break;
            default: due("who()", x.who(), y.who());
        }
    }

    private void sheets() {
        int k = random.nextBoolean() ? 0 : near(0, 3), lane = near(0, 2), v = random.nextInt();
        switch (in(0, 7)) {
            case 0: v = near(0, 40); due("sheet(" + k + ", " + lane + ", " + v + ")", x.sheet(k, lane, v), y.sheet(k, lane, v)); break;
            case 1: case 2:
                for (int i = in(0, 9), n = in(0, 9); n > 0; n--, i++) {
                    v = in(0, 9) == 0 ? random.nextInt() : i % 3 == 0 ? in(0, 130) : i % 3 == 1 ? in(0, 30) : in(0, 1);
                    due("lay(" + k + ", " + i + ", " + v + ")", x.lay(k, i, v), y.lay(k, i, v));
                }
                break;
            case 3: v = near(0, 39); due("lay(" + k + ", " + v + ", 257)", x.lay(k, v, 257), y.lay(k, v, 257)); break;
            case 4: v = near(0, 5); due("count(" + v + ")", x.count(v), y.count(v)); break;
            case 5: due("torn()", x.torn(), y.torn()); break;
            default:
                int f = in(0, 2) > 0 ? 3 * in(0, 3) : near(0, 40), n = in(0, 1) == 0 ? in(0, 3) : near(0, 12);
                due("read(" + k + ", " + lane + ", " + f + ", " + n + ")", x.read(k, lane, f, n), y.read(k, lane, f, n));
                due("torn()", x.torn(), y.torn());
                due("count(2)", x.count(2), y.count(2));
        }
    }
}
