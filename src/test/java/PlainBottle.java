import java.util.ArrayList;
import java.util.Arrays;
import java.util.List;
import java.util.TreeMap;

/**
 * The document once more, word by word and without any cleverness: every BUBBLE is tried, every THUMB is tried,
 * sheets are real rows whose faults the machine throws. RandomRunsTest holds DiverBottle against it.
 */
final class PlainBottle {
    static final int BAD = -1, STATE = -2, FULL = -3, NONE = -4;

    /** All that a text tells. */
    private static final class Told {
        int height = 100, air = 1000, warm = 293, drag = 8, salt = 201, more = 0, ring = 0;
        final TreeMap<Integer, Integer> hours = new TreeMap<>();
        final List<One> divers = new ArrayList<>();
        int lines;
    }

    private static final class One implements Cloneable {
        int heavy, bubble, leak, rate, load, fine, pace;
        boolean hook;

        One copy() {
            One o = new One();
            o.heavy = heavy; o.bubble = bubble; o.leak = leak; o.rate = rate;
            o.load = load; o.fine = fine; o.pace = pace; o.hook = hook;
            return o;
        }
    }

    private static final class All {
        List<One> divers = new ArrayList<>();
        int thumb, warm = 293, tick, fetched;
        boolean ringThere;
        List<int[]> seen = new ArrayList<>();

        All copy() {
            All a = new All();
            for (One o : divers) a.divers.add(o.copy());
            a.thumb = thumb; a.warm = warm; a.tick = tick; a.fetched = fetched; a.ringThere = ringThere;
            a.seen = new ArrayList<>(seen);
            return a;
        }
    }

    /** A fault of the text: thrown by the reader below. */
    private static final class Wrong extends Exception {
        private static final long serialVersionUID = 1;
        final int kind, place;

        Wrong(int kind, int place) {
            this.kind = kind;
            this.place = place;
        }
    }

    private String tape = "";
    private Told told = new Told();
    private All all = new All();
    private final All[] images = new All[2];
    private final Object[] sheets = new Object[4];
    private int fault, torn;

    // ---- the text

    int feed(long v) {
        if (tape.length() + 8 > 320) return FULL;
        StringBuilder more = new StringBuilder(tape);
        for (int i = 7; i >= 0; i--) more.append((char) (v >>> (8 * i) & 255));
        tape = more.toString();
        return tape.length();
    }

    int end(int n) {
        if (n < 0 || n > tape.length()) return BAD;
        int had = tape.length();
        tape = tape.substring(0, n);
        return had;
    }

    int text() {
        Reading reading = new Reading(tape);
        tape = "";
        fault = 0;
        try {
            told = reading.all();
        } catch (Wrong w) {
            fault = w.kind;
            return -10 - w.place;
        }
        all = new All();
        for (One o : told.divers) all.divers.add(o.copy());
        all.warm = told.warm;
        all.ringThere = told.ring > 0;
        Arrays.fill(images, null);
        return told.lines;
    }

    private static final class Reading {
        final String tape;
        int at, from;
        String token;

        Reading(String tape) {
            this.tape = tape;
        }

        /** "" is the end. */
        String next() throws Wrong {
            while (at < tape.length() && tape.charAt(at) == ' ') at++;
            from = at;
            token = "";
            if (at == tape.length()) return token;
            String rest = tape.substring(at);
            token = rest.replaceFirst("(?s)^([a-z]+|[0-9]+|;).*$", "$1");
            if (token.equals(rest) && !rest.matches("[a-z]+|[0-9]+|;")) throw new Wrong(1, from);
            if (token.matches("[0-9]{5,}")) throw new Wrong(1, from);
            at += token.length();
            return token;
        }

        int number(int least, int most) throws Wrong {
            if (!next().matches("[0-9]+")) throw new Wrong(2, from);
            int n = Integer.parseInt(token);
            if (n < least || n > most) throw new Wrong(3, from);
            return n;
        }

        void stop() throws Wrong {
            if (!next().equals(";")) throw new Wrong(2, from);
        }

        Told all() throws Wrong {
            Told t = new Told();
            List<String> names = new ArrayList<>();
            while (!next().isEmpty()) {
                String name = token;
                if (!List.of("height", "air", "warm", "drag", "salt", "ring", "hour", "diver").contains(name)) {
                    throw new Wrong(2, from);
                }
                boolean once = !name.equals("hour") && !name.equals("diver");
                if (once && names.contains(name)) throw new Wrong(4, from);
                names.add(name);
                switch (name) {
                    case "height": t.height = number(10, 200); stop(); break;
                    case "air": t.air = number(800, 1200); stop(); break;
                    case "warm": t.warm = number(250, 350); stop(); break;
                    case "drag": t.drag = number(1, 64); stop(); break;
                    case "salt": t.salt = number(0, 201); t.more = number(0, 99); stop(); break;
                    case "ring": t.ring = number(0, 999); stop(); break;
                    case "hour": hour(t); break;
                    default: diver(t);
                }
                t.lines++;
            }
            return t;
        }

        void hour(Told t) throws Wrong {
            int h = number(0, 23);
            if (t.hours.containsKey(h)) throw new Wrong(4, from);
            t.hours.put(h, number(250, 350));
            stop();
        }

        void diver(Told t) throws Wrong {
            if (t.divers.size() == 6) throw new Wrong(5, from);
            One o = new One();
            o.heavy = number(1, 999);
            o.bubble = number(0, 9999);
            List<String> withs = new ArrayList<>();
            while (!next().equals(";")) {
                String with = token;
                if (!List.of("leak", "rate", "hook").contains(with)) throw new Wrong(2, from);
                if (withs.contains(with)) throw new Wrong(4, from);
                withs.add(with);
                if (with.equals("leak")) o.leak = number(0, 99);
                if (with.equals("rate")) o.rate = number(0, 99);
                if (with.equals("hook")) o.hook = true;
            }
            t.divers.add(o);
        }
    }

    int fault() {
        return fault;
    }

    private int warmthOf(int hour) {
        return told.hours.getOrDefault(hour, told.warm);
    }

    int rule(int what) {
        int[] rules = {told.height, told.air, all.warm, told.drag, told.salt, told.more, told.ring};
        if (what >= 0 && what <= 6) return rules[what];
        if (what >= 10 && what <= 33) return warmthOf(what - 10);
        return BAD;
    }

    private boolean noDiver(int k) {
        return k < 0 || k >= all.divers.size();
    }

    private boolean noDepth(int d) {
        return d < 0 || d > told.height;
    }

    private static boolean noThumb(int t) {
        return t < 0 || t > 500;
    }

    private static boolean noHeavy(int h) {
        return h < 1 || h > 999;
    }

    private int weight(int mass, int bubble, int warm, int depth, int thumb) {
        int volume = Math.floorDiv(bubble * warm, told.air + thumb + depth);
        int w = mass - volume;
        if (depth >= told.salt) w -= told.more;
        return w;
    }

    private int weight(One o, int depth, int thumb) {
        return weight(o.heavy + o.load, o.bubble, all.warm, depth, thumb);
    }

    int diver(int k, int what) {
        if (noDiver(k) || what < 0 || what > 9) return -1000000;
        One o = all.divers.get(k);
        int depth = Math.floorDiv(o.fine, 64);
        return new int[] {o.heavy, o.bubble, o.leak, o.rate, o.hook ? 1 : 0, o.load, depth, o.fine, o.pace,
            weight(o, depth, all.thumb)}[what];
    }

    // ---- ticks

    int thumb(int v) {
        if (noThumb(v)) return BAD;
        int was = all.thumb;
        all.thumb = v;
        return was;
    }

    int warm(int v) {
        if (v < 250 || v > 350) return BAD;
        int was = all.warm;
        all.warm = v;
        return was;
    }

    /** PACE and FINE DEPTH of one TICK. */
    private void ride(One o, int thumb) {
        int floor = told.height * 64;
        o.pace += weight(o, Math.floorDiv(o.fine, 64), thumb);
        o.pace -= o.pace / told.drag;
        o.fine += o.pace;
        if (o.fine < 0) {
            o.fine = 0;
            o.pace = 0;
        }
        if (o.fine > floor) {
            o.fine = floor;
            o.pace = 0;
        }
        if (o.fine == 0 && o.pace < 0) o.pace = 0;
        if (o.fine == floor && o.pace > 0) o.pace = 0;
    }

    int go(int n) {
        if (n < 1 || n > 999) return BAD;
        int floor = told.height * 64;
        for (int i = 0; i < n; i++) {
            for (One o : all.divers) {
                boolean wasTop = o.fine == 0, wasFloor = o.fine == floor;
                ride(o, all.thumb);
                if (o.fine == floor && !wasFloor) {
                    o.bubble = Math.max(0, o.bubble - o.leak);
                    if (o.hook && all.ringThere) {
                        o.load = told.ring;
                        all.ringThere = false;
                    }
                }
                if (o.fine == 0 && !wasTop && o.load > 0) {
                    o.load = 0;
                    all.fetched++;
                }
            }
            all.tick++;
        }
        return now(3);
    }

    int set(int k, int depth) {
        if (noDiver(k) || noDepth(depth)) return BAD;
        One o = all.divers.get(k);
        int was = Math.floorDiv(o.fine, 64);
        o.fine = 64 * depth;
        o.pace = 0;
        return was;
    }

    private int bitsAt(int fine) {
        int bits = 0;
        for (int k = 0; k < all.divers.size(); k++) if (all.divers.get(k).fine == fine) bits += 1 << k;
        return bits;
    }

    int now(int what) {
        if (what == 0) return all.tick;
        if (what == 1) return all.thumb;
        if (what == 2) return bitsAt(0);
        if (what == 3) return bitsAt(told.height * 64);
        if (what == 4) return all.ringThere ? 1 : 0;
        if (what == 5) return all.fetched;
        return BAD;
    }

    int drop() {
        if (told.ring == 0 || all.ringThere) return 0;
        all.ringThere = true;
        for (One o : all.divers) o.load = 0;
        return 1;
    }

    // ---- what he weighs

    int press(int depth) {
        return noDepth(depth) ? BAD : told.air + all.thumb + depth;
    }

    int weighs(int k, int depth, int thumb) {
        if (noDiver(k) || noDepth(depth) || noThumb(thumb)) return -1000000;
        return weight(all.divers.get(k), depth, thumb);
    }

    int turning(int k, int thumb) {
        if (noDiver(k) || noThumb(thumb)) return BAD;
        for (int d = 0; d <= told.height; d++) if (weighs(k, d, thumb) >= 0) return d;
        return NONE;
    }

    int holding(int k, int thumb) {
        if (noDiver(k) || noThumb(thumb)) return BAD;
        for (int d = 1; d <= told.height; d++) {
            if (weighs(k, d, thumb) <= 0 && weighs(k, d - 1, thumb) > 0) return d;
        }
        return NONE;
    }

    int back(int k) {
        if (noDiver(k)) return BAD;
        for (int d = told.height; d >= 0; d--) {
            boolean up = true;
            for (int e = 0; e <= d; e++) up &= weighs(k, e, 0) < 0;
            if (up) return d;
        }
        return NONE;
    }

    private int goesAt(int mass, int bubble) {
        for (int t = 0; t <= 500; t++) if (weight(mass, bubble, all.warm, 0, t) > 0) return t;
        return NONE;
    }

    int goesAt(int k) {
        if (noDiver(k)) return BAD;
        One o = all.divers.get(k);
        return goesAt(o.heavy + o.load, o.bubble);
    }

    int order(int i) {
        if (noDiver(i)) return BAD;
        List<Integer> line = new ArrayList<>();
        for (int k = 0; k < all.divers.size(); k++) line.add(k);
        line.sort((a, b) -> {
            int x = goesAt(a) == NONE ? 1000 : goesAt(a), y = goesAt(b) == NONE ? 1000 : goesAt(b);
            return x != y ? Integer.compare(x, y) : Integer.compare(a, b);
        });
        return line.get(i);
    }

    int apart() {
        int best = 1000;
        for (int a = 0; a < all.divers.size(); a++) {
            for (int b = 0; b < all.divers.size(); b++) {
                if (a == b || goesAt(a) == NONE || goesAt(b) == NONE) continue;
                best = Math.min(best, Math.abs(goesAt(a) - goesAt(b)));
            }
        }
        return best == 1000 ? NONE : best;
    }

    int lifts(int k) {
        if (noDiver(k)) return BAD;
        One o = all.divers.get(k);
        for (int load = 999; load >= 0; load--) {
            boolean up = true;
            for (int d = 0; d <= told.height; d++) up &= weight(o.heavy + load, o.bubble, all.warm, d, 0) < 0;
            if (up) return load;
        }
        return NONE;
    }

    // ---- which bubble

    private boolean comesBack(int heavy, int b) {
        return weight(heavy, b, all.warm, 0, 0) < 0 && weight(heavy, b, all.warm, told.height, 0) < 0;
    }

    private static int tell(List<Integer> found, int what) {
        if (what == 0) return found.size();
        if (found.isEmpty()) return NONE;
        return found.get(what == 1 ? 0 : found.size() - 1);
    }

    int bubbles(int heavy, int thumb, int what) {
        if (noHeavy(heavy) || noThumb(thumb) || what < 0 || what > 2) return BAD;
        List<Integer> found = new ArrayList<>();
        for (int b = 0; b <= 9999; b++) {
            if (comesBack(heavy, b) && weight(heavy, b, all.warm, 0, thumb) > 0) found.add(b);
        }
        return tell(found, what);
    }

    int atThumb(int heavy, int thumb, int what) {
        if (noHeavy(heavy) || noThumb(thumb) || what < 0 || what > 2) return BAD;
        List<Integer> found = new ArrayList<>();
        for (int b = 0; b <= 9999; b++) if (goesAt(heavy, b) == thumb) found.add(b);
        return tell(found, what);
    }

    int spread(int heavy, int n, int what) {
        if (noHeavy(heavy) || n < 2 || n > 6 || what < 0 || what > 1) return BAD;
        boolean[] there = new boolean[501];
        for (int b = 0; b <= 9999; b++) {
            if (comesBack(heavy, b) && goesAt(heavy, b) != NONE) there[goesAt(heavy, b)] = true;
        }
        // widest[t]: how far apart at best, t being the first of j
        int[] widest = new int[501];
        for (int t = 0; t <= 500; t++) widest[t] = there[t] ? 1000 : 0;
        for (int j = 2; j <= n; j++) {
            int[] wider = new int[501];
            for (int t = 0; t <= 500; t++) {
                for (int u = t + 1; u <= 500 && there[t]; u++) {
                    wider[t] = Math.max(wider[t], Math.min(u - t, widest[u]));
                }
            }
            widest = wider;
        }
        int best = 0, first = NONE;
        for (int t = 500; t >= 0; t--) best = Math.max(best, widest[t]);
        for (int t = 500; t >= 0; t--) if (widest[t] == best) first = t;
        if (best == 0) return NONE;
        return what == 0 ? best : first;
    }

    // ---- a hand, hours, trips

    private boolean noHold(int k, int depth, int t, int n) {
        return noDiver(k) || depth < 1 || depth > told.height - 1 || noThumb(t) || n < 1 || n > 999;
    }

    int hold(int k, int depth, int t, int late, int step, int n, int what) {
        if (noHold(k, depth, t, n) || late < 0 || late > 50 || step < 1 || step > 50 || what < 0 || what > 3) {
            return BAD;
        }
        One o = all.divers.get(k).copy();
        int[] was = new int[n + 1];
        o.fine = was[0] = 64 * depth;
        o.pace = 0;
        int thumb = t, far = 0, lost = NONE, last = 0;
        for (int tick = 1; tick <= n; tick++) {
            int sees = was[Math.max(0, tick - 1 - late)];
            if (sees < 64 * depth) thumb += step;
            if (sees > 64 * depth) thumb -= step;
            if (thumb > 500) thumb = 500;
            if (thumb < 0) thumb = 0;
            ride(o, thumb);
            last = was[tick] = o.fine;
            far = Math.max(far, Math.abs(o.fine - 64 * depth));
            if (o.fine == 0 || o.fine == 64 * told.height) {
                lost = tick;
                break;
            }
        }
        return new int[] {lost, last, far, thumb}[what];
    }

    int late(int k, int depth, int t, int step, int n) {
        if (noHold(k, depth, t, n) || step < 1 || step > 50) return BAD;
        int late = 0;
        while (late <= 50 && hold(k, depth, t, late, step, n, 0) == NONE) late++;
        return late == 0 ? NONE : late - 1;
    }

    int step(int k, int depth, int t, int late, int n, int what) {
        if (noHold(k, depth, t, n) || late < 0 || late > 50 || what < 0 || what > 1) return BAD;
        int best = 0, bestTicks = -1;
        for (int s = 50; s >= 1; s--) {
            int ticks = hold(k, depth, t, late, s, n, 0);
            if (ticks == NONE) ticks = 100000;
            if (ticks >= bestTicks) {
                best = s;
                bestTicks = ticks;
            }
        }
        if (what == 0) return best;
        return bestTicks == 100000 ? NONE : bestTicks;
    }

    int hours(int k, int what) {
        if (noDiver(k) || what < 0 || what > 1) return BAD;
        One o = all.divers.get(k);
        boolean top = true;
        int bits = 0, often = 0;
        for (int h = 0; h < 24; h++) {
            if (top && weight(o.heavy + o.load, o.bubble, warmthOf(h), 0, 0) > 0) {
                top = false;
                often++;
            } else if (!top && weight(o.heavy + o.load, o.bubble, warmthOf(h), told.height, 0) < 0) {
                top = true;
                often++;
            }
            if (!top) bits |= 1 << h;
        }
        return what == 0 ? bits : often;
    }

    int trips(int k) {
        if (noDiver(k)) return BAD;
        One o = all.divers.get(k).copy();
        int n = 0;
        while (n < 999) {
            o.bubble = Math.max(0, o.bubble - o.leak);
            if (weight(o, told.height, 0) >= 0) break;
            n++;
        }
        return n;
    }

    private int bladderAt(One o, int depth) {
        for (int b = 0; b <= 9999; b++) if (weight(o.heavy + o.load, b, all.warm, depth, 0) <= 0) return b;
        return NONE;
    }

    int bladder(int k, int from, int to, int what) {
        if (noDiver(k) || noDepth(from) || noDepth(to) || what < 0 || what > 1) return BAD;
        One o = all.divers.get(k);
        int a = bladderAt(o, from), b = bladderAt(o, to);
        if (a == NONE || b == NONE) return NONE;
        if (what == 1) return b;
        if (a == b) return 0;
        if (o.rate == 0) return NONE;
        int ticks = 0;
        for (int moved = 0; moved < Math.abs(a - b); moved += o.rate) ticks++;
        return ticks;
    }

    int beats(int k, int b, int gain, int what) {
        if (noDiver(k) || b < 0 || b > 9999 || gain < 1 || gain > 99 || what < 0 || what > 1) return BAD;
        int heavy = all.divers.get(k).heavy, bubble = b, ticks = 0;
        if (weight(heavy, bubble, all.warm, 0, 0) <= 0) return NONE;
        ticks++;
        while (weight(heavy, bubble, all.warm, told.height, 0) >= 0) {
            if (bubble == 9999) return NONE;
            bubble = Math.min(9999, bubble + gain);
            ticks++;
        }
        ticks++;
        return what == 0 ? ticks : bubble;
    }

    // ---- what it can be

    int saw(int thumb, int depth, boolean sank) {
        if (noThumb(thumb) || noDepth(depth)) return BAD;
        if (all.seen.size() == 12) return FULL;
        all.seen.add(new int[] {thumb, depth, sank ? 1 : 0});
        return all.seen.size();
    }

    int forget() {
        int were = all.seen.size();
        all.seen.clear();
        return were;
    }

    private boolean isSo(int mass, int bubble) {
        for (int[] s : all.seen) {
            if ((weight(mass, bubble, all.warm, s[1], s[0]) > 0) != (s[2] == 1)) return false;
        }
        return true;
    }

    int fits(int heavy, int what) {
        if (noHeavy(heavy) || what < 0 || what > 2) return BAD;
        List<Integer> found = new ArrayList<>();
        for (int b = 0; b <= 9999; b++) if (isSo(heavy, b)) found.add(b);
        return tell(found, what);
    }

    int who() {
        int bits = 0;
        for (int k = 0; k < all.divers.size(); k++) {
            One o = all.divers.get(k);
            if (isSo(o.heavy + o.load, o.bubble)) bits |= 1 << k;
        }
        return bits;
    }

    // ---- images, sheets

    int keep(int i) {
        if (i < 0 || i > 1) return BAD;
        int was = images[i] == null ? 0 : 1;
        images[i] = all.copy();
        return was;
    }

    int restore(int i) {
        if (i < 0 || i > 1) return BAD;
        if (images[i] == null) return STATE;
        all = images[i].copy();
        return all.tick;
    }

    int sheet(int k, int lane, int n) {
        if (k < 0 || k > 3 || lane < 0 || lane > 2 || n > 40) return BAD;
        try {
            sheets[k] = lane == 0 ? new byte[n] : lane == 1 ? new short[n] : (Object) new int[n];
            return 1;
        } catch (NegativeArraySizeException e) {
            return -14;
        }
    }

    int lay(int k, int i, int v) {
        if (k < 0 || k > 3) return BAD;
        try {
            if (sheets[k] instanceof byte[]) ((byte[]) sheets[k])[i] = (byte) v;
            else if (sheets[k] instanceof short[]) ((short[]) sheets[k])[i] = (short) v;
            else ((int[]) sheets[k])[i] = v;
            return 1;
        } catch (NullPointerException e) {
            return -11;
        } catch (ArrayIndexOutOfBoundsException e) {
            return -12;
        }
    }

    private int cell(int k, int lane, int i) {
        if (lane == 0) return ((byte[]) sheets[k])[i];
        if (lane == 1) return ((short[]) sheets[k])[i];
        return ((int[]) sheets[k])[i];
    }

    int read(int k, int lane, int f, int n) {
        if (k < 0 || k > 3 || lane < 0 || lane > 2 || n < 0 || n > 12) return BAD;
        List<int[]> came = new ArrayList<>();
        int found = 0;
        try {
            for (int i = 0; i < n; i++) {
                int[] s = {cell(k, lane, f + 3 * i), cell(k, lane, f + 3 * i + 1), cell(k, lane, f + 3 * i + 2)};
                if (noThumb(s[0]) || noDepth(s[1]) || s[2] < 0 || s[2] > 1) return -20 - i;
                if (all.seen.size() + came.size() == 12) return FULL;
                came.add(s);
            }
        } catch (NullPointerException e) {
            found = 1;
        } catch (ArrayIndexOutOfBoundsException e) {
            found = 2;
        } catch (ClassCastException e) {
            found = 3;
        }
        all.seen.addAll(came);
        torn = found;
        return came.size();
    }

    int torn() {
        return torn;
    }

    int count(int what) {
        if (what == 0) return all.divers.size();
        if (what == 1) return (int) all.divers.stream().filter(o -> o.hook).count();
        if (what == 2) return all.seen.size();
        if (what == 3) return (images[0] == null ? 0 : 1) + (images[1] == null ? 0 : 1);
        if (what == 4) return tape.length();
        if (what == 5) return sheets[0] == null ? NONE : java.lang.reflect.Array.getLength(sheets[0]);
        return BAD;
    }
}
