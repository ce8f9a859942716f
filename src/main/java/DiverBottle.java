/**
 * A bottle of water with up to six divers in it, told by a text.
 *
 * The words in capitals are those of the document (DOC.md, 'Terms').
 */
public final class DiverBottle {
    public static final int BAD = -1, STATE = -2, FULL = -3, NONE = -4;

    private static final int BAD_DIVER = -1000000;

    private static final int HEIGHT = 0, AIR = 1, WARM = 2, DRAG = 3, SALT = 4, MORE = 5, RING = 6;
    private static final int RULES = 7;
    private static final int[] RULE_LEAST = {10, 800, 250, 1, 0, 0, 0};
    private static final int[] RULE_MOST = {200, 1200, 350, 64, 201, 99, 999};
    private static final int[] RULE_FIRST = {100, 1000, 293, 8, 201, 0, 0};
    private static final int HOURS = 24, FIRST_HOUR = 10;

    private static final int DIVERS = 6, FINE = 64;
    private static final int MOST_HEAVY = 999, MOST_BUBBLE = 9999, MOST_LEAK = 99, MOST_RATE = 99;
    private static final int MOST_THUMB = 500, MOST_LOAD = 999, MOST_TICKS = 999, MOST_TRIPS = 999;
    private static final int MOST_LATE = 50, MOST_STEP = 50, MOST_GAIN = 99;
    private static final int LEAST_SPREAD = 2, MOST_SPREAD = 6;

    private static final int TAPE = 320, FIGURES = 4;
    private static final int NO_TOKEN = 1, MISPLACED = 2, OUT_OF_BOUNDS = 3, AGAIN = 4, ONE_TOO_MANY = 5;

    private static final int MOST_SEEN = 12, IMAGES = 2;
    private static final int SHEETS = 4, LANES = 3, BYTES = 0, SHORTS = 1, CELLS = 40;
    private static final int WHOLE = 0, NULL = 1, INDEX = 2, CAST = 3, SIZE = 4;

    private final Reader reader;
    private final Water water;
    private final Scene scene;
    private final Scene[] images;
    private final boolean[] kept;
    private final Sheet[] sheets;
    private final Seen came;
    private final Hand hand;
    private final boolean[] goers;
    private int textFault, readFault;

    public DiverBottle() {
        reader = new Reader();
        water = new Water();
        scene = new Scene();
        images = new Scene[IMAGES];
        kept = new boolean[IMAGES];
        for (int i = 0; i < IMAGES; i++) images[i] = new Scene();
        sheets = new Sheet[SHEETS];
        for (int i = 0; i < SHEETS; i++) sheets[i] = new Sheet();
        came = new Seen();
        hand = new Hand();
        goers = new boolean[MOST_THUMB + 1];
        scene.warmth = water.rules[WARM];
    }

    // ---- the text

    public int feed(long v) {
        return reader.append(v) ? reader.length : FULL;
    }

    public int end(int n) {
        int had = reader.length;
        if (!within(n, 0, had)) return BAD;
        reader.length = n;
        return had;
    }

    public int text() {
        boolean taken = reader.takeText();
        reader.length = 0;
        textFault = reader.faultKind;
        if (!taken) return -10 - reader.faultPlace;
        water.copyFrom(reader.water);
        scene.begin(water, reader.divers, reader.diverCount);
        for (int i = 0; i < IMAGES; i++) kept[i] = false;
        return reader.lines;
    }

    public int fault() {
        return textFault;
    }

    public int rule(int what) {
        if (what == WARM) return scene.warmth;
        if (within(what, 0, RULES - 1)) return water.rules[what];
        if (within(what, FIRST_HOUR, FIRST_HOUR + HOURS - 1)) return water.warmths[what - FIRST_HOUR];
        return BAD;
    }

    public int diver(int k, int what) {
        if (!isDiver(k)) return BAD_DIVER;
        Diver d = scene.divers[k];
        switch (what) {
            case 0: return d.heavy;
            case 1: return d.bubble;
            case 2: return d.leak;
            case 3: return d.rate;
            case 4: return bit(d.hook);
            case 5: return d.load;
            case 6: return d.depth();
            case 7: return d.fine;
            case 8: return d.pace;
            case 9: return weightOf(d, d.depth(), scene.thumb);
            default: return BAD_DIVER;
        }
    }

    // ---- ticks

    public int thumb(int v) {
        if (!isThumb(v)) return BAD;
        int was = scene.thumb;
        scene.thumb = v;
        return was;
    }

    public int warm(int v) {
        if (!within(v, RULE_LEAST[WARM], RULE_MOST[WARM])) return BAD;
        int was = scene.warmth;
        scene.warmth = v;
        return was;
    }

    public int go(int n) {
        if (!within(n, 1, MOST_TICKS)) return BAD;
        for (int i = 0; i < n; i++) {
            for (int k = 0; k < scene.diverCount; k++) moveDiver(scene.divers[k]);
            scene.ticks++;
        }
        return diversAt(water.floor());
    }

    public int set(int k, int depth) {
        if (!isDiver(k) || !isDepth(depth)) return BAD;
        Diver d = scene.divers[k];
        int was = d.depth();
        d.fine = depth * FINE;
        d.pace = 0;
        return was;
    }

    public int now(int what) {
        switch (what) {
            case 0: return scene.ticks;
            case 1: return scene.thumb;
            case 2: return diversAt(0);
            case 3: return diversAt(water.floor());
            case 4: return bit(scene.ringLies);
            case 5: return scene.fetched;
            default: return BAD;
        }
    }

    public int drop() {
        if (water.rules[RING] == 0 || scene.ringLies) return 0;
        for (int k = 0; k < scene.diverCount; k++) scene.divers[k].load = 0;
        scene.ringLies = true;
        return 1;
    }

    // ---- what he weighs

    public int press(int depth) {
        return isDepth(depth) ? water.pressAt(depth, scene.thumb) : BAD;
    }

    public int weighs(int k, int depth, int thumb) {
        if (!isDiver(k) || !isDepth(depth) || !isThumb(thumb)) return BAD_DIVER;
        return weightOf(scene.divers[k], depth, thumb);
    }

    public int turning(int k, int thumb) {
        if (!isDiver(k) || !isThumb(thumb)) return BAD;
        for (int depth = 0; depth <= water.rules[HEIGHT]; depth++) {
            if (weightOf(scene.divers[k], depth, thumb) >= 0) return depth;
        }
        return NONE;
    }

    public int holding(int k, int thumb) {
        if (!isDiver(k) || !isThumb(thumb)) return BAD;
        int above = weightOf(scene.divers[k], 0, thumb);
        for (int depth = 1; depth <= water.rules[HEIGHT]; depth++) {
            int here = weightOf(scene.divers[k], depth, thumb);
            if (here <= 0 && above > 0) return depth;
            above = here;
        }
        return NONE;
    }

    public int back(int k) {
        if (!isDiver(k)) return BAD;
        int deepest = NONE;
        for (int depth = 0; depth <= water.rules[HEIGHT]; depth++) {
            if (weightOf(scene.divers[k], depth, 0) >= 0) return deepest;
            deepest = depth;
        }
        return deepest;
    }

    public int goesAt(int k) {
        return isDiver(k) ? thumbOf(k) : BAD;
    }

    public int order(int i) {
        for (int k = 0; k < scene.diverCount; k++) {
            if (diversAhead(k) == i) return k;
        }
        return BAD;
    }

    public int apart() {
        int least = NONE;
        for (int k = 1; k < scene.diverCount; k++) {
            for (int other = 0; other < k; other++) {
                if (thumbOf(k) == NONE || thumbOf(other) == NONE) continue;
                int difference = Math.abs(thumbOf(k) - thumbOf(other));
                if (least == NONE || difference < least) least = difference;
            }
        }
        return least;
    }

    public int lifts(int k) {
        if (!isDiver(k)) return BAD;
        Diver d = scene.divers[k];
        int most = MOST_LOAD;
        for (int depth = 0; depth <= water.rules[HEIGHT]; depth++) {
            int bare = water.weight(d.heavy, d.bubble, scene.warmth, depth, 0);
            most = Math.min(most, -bare - 1);
        }
        return most < 0 ? NONE : most;
    }

    // ---- which bubble

    public int bubbles(int heavy, int thumb, int what) {
        if (!isHeavy(heavy) || !isThumb(thumb) || !within(what, 0, 2)) return BAD;
        return tellRange(comesBackFrom(heavy), floatsFrom(heavy, 0, thumb) - 1, what);
    }

    public int atThumb(int heavy, int thumb, int what) {
        if (!isHeavy(heavy) || !isThumb(thumb) || !within(what, 0, 2)) return BAD;
        return tellRange(leastAtThumb(heavy, thumb), greatestAtThumb(heavy, thumb), what);
    }

    public int spread(int heavy, int n, int what) {
        if (!isHeavy(heavy) || !within(n, LEAST_SPREAD, MOST_SPREAD) || !within(what, 0, 1)) return BAD;
        findGoers(heavy);
        if (goersApart(1) < n) return NONE;
        return what == 1 ? firstGoer() : greatestGap(n);
    }

    // ---- a hand, hours, trips

    public int hold(int k, int depth, int t, int late, int step, int n, int what) {
        if (!canHold(k, depth, t, n) || !isLate(late) || !isStep(step) || !within(what, 0, 3)) return BAD;
        tryHold(k, depth, t, late, step, n);
        switch (what) {
            case 0: return hand.lostAt;
            case 1: return hand.held.fine;
            case 2: return hand.farthest;
            default: return hand.thumb;
        }
    }

    public int late(int k, int depth, int t, int step, int n) {
        if (!canHold(k, depth, t, n) || !isStep(step)) return BAD;
        int greatest = NONE;
        for (int late = 0; late <= MOST_LATE; late++) {
            tryHold(k, depth, t, late, step, n);
            if (hand.lostAt != NONE) return greatest;
            greatest = late;
        }
        return greatest;
    }

    public int step(int k, int depth, int t, int late, int n, int what) {
        if (!canHold(k, depth, t, n) || !isLate(late) || !within(what, 0, 1)) return BAD;
        int best = 1, bestLost = 0;
        for (int step = 1; step <= MOST_STEP && bestLost != NONE; step++) {
            tryHold(k, depth, t, late, step, n);
            if (hand.lostAt == NONE || hand.lostAt > bestLost) {
                best = step;
                bestLost = hand.lostAt;
            }
        }
        return what == 0 ? best : bestLost;
    }

    public int hours(int k, int what) {
        if (!isDiver(k) || !within(what, 0, 1)) return BAD;
        Diver d = scene.divers[k];
        int downBits = 0, moves = 0;
        boolean down = false;
        for (int hour = 0; hour < HOURS; hour++) {
            if (leavesAt(d, water.warmths[hour], down)) {
                down = !down;
                moves++;
            }
            if (down) downBits |= 1 << hour;
        }
        return what == 0 ? downBits : moves;
    }

    public int trips(int k) {
        if (!isDiver(k)) return BAD;
        Diver d = scene.divers[k];
        int bubble = d.bubble;
        for (int trip = 0; trip < MOST_TRIPS; trip++) {
            bubble = Math.max(0, bubble - d.leak);
            int weight = water.weight(d.heavy + d.load, bubble, scene.warmth, water.rules[HEIGHT], 0);
            if (weight >= 0) return trip;
        }
        return MOST_TRIPS;
    }

    public int bladder(int k, int from, int to, int what) {
        if (!isDiver(k) || !isDepth(from) || !isDepth(to) || !within(what, 0, 1)) return BAD;
        Diver d = scene.divers[k];
        int first = floatsFrom(d.heavy + d.load, from, 0);
        int there = floatsFrom(d.heavy + d.load, to, 0);
        if (first > MOST_BUBBLE || there > MOST_BUBBLE) return NONE;
        if (what == 1) return there;
        if (first == there) return 0;
        return d.rate == 0 ? NONE : divideUp(Math.abs(there - first), d.rate);
    }

    public int beats(int k, int b, int gain, int what) {
        if (!isDiver(k) || !within(b, 0, MOST_BUBBLE) || !within(gain, 1, MOST_GAIN) || !within(what, 0, 1)) {
            return BAD;
        }
        int heavy = scene.divers[k].heavy;
        int enough = risesFrom(heavy, water.rules[HEIGHT]);
        if (b >= floatsFrom(heavy, 0, 0) || enough > MOST_BUBBLE) return NONE;
        int gains = divideUp(Math.max(0, enough - b), gain);
        // one TICK more down to the floor, one up from it
        return what == 0 ? gains + 2 : Math.min(MOST_BUBBLE, b + gains * gain);
    }

    // ---- what it can be

    public int saw(int thumb, int depth, boolean sank) {
        if (!isThumb(thumb) || !isDepth(depth)) return BAD;
        return scene.seen.add(thumb, depth, sank) ? scene.seen.size : FULL;
    }

    public int forget() {
        int were = scene.seen.size;
        scene.seen.size = 0;
        return were;
    }

    public int fits(int heavy, int what) {
        if (!isHeavy(heavy) || !within(what, 0, 2)) return BAD;
        Seen seen = scene.seen;
        int least = 0, greatest = MOST_BUBBLE;
        for (int i = 0; i < seen.size; i++) {
            int edge = floatsFrom(heavy, seen.depths[i], seen.thumbs[i]);
            if (seen.sank[i]) greatest = Math.min(greatest, edge - 1);
            else least = Math.max(least, edge);
        }
        return tellRange(least, greatest, what);
    }

    public int who() {
        int bits = 0;
        for (int k = 0; k < scene.diverCount; k++) {
            if (canBe(scene.divers[k])) bits |= 1 << k;
        }
        return bits;
    }

    // ---- images, sheets

    public int keep(int i) {
        if (!within(i, 0, IMAGES - 1)) return BAD;
        int was = bit(kept[i]);
        images[i].copyFrom(scene);
        kept[i] = true;
        return was;
    }

    public int restore(int i) {
        if (!within(i, 0, IMAGES - 1)) return BAD;
        if (!kept[i]) return STATE;
        scene.copyFrom(images[i]);
        return scene.ticks;
    }

    public int sheet(int k, int lane, int n) {
        if (!isSheet(k) || !isLane(lane) || n > CELLS) return BAD;
        if (n < 0) return -10 - SIZE;
        sheets[k].renew(lane, n);
        return 1;
    }

    public int lay(int k, int i, int v) {
        if (!isSheet(k)) return BAD;
        int found = sheets[k].faultAt(i);
        if (found != WHOLE) return -10 - found;
        sheets[k].put(i, v);
        return 1;
    }

    public int read(int k, int lane, int f, int n) {
        if (!isSheet(k) || !isLane(lane) || !within(n, 0, MOST_SEEN)) return BAD;
        Sheet row = sheets[k];
        int found = WHOLE;
        came.size = 0;
        for (int i = 0; i < n; i++) {
            // a place that is out of the row ends the loop, so f + 3 * i can not wrap around into it
            int at = f + 3 * i;
            found = row.faultOfThree(lane, at);
            if (found != WHOLE) break;
            int thumb = row.cells[at], depth = row.cells[at + 1], sank = row.cells[at + 2];
            if (!isThumb(thumb) || !isDepth(depth) || !within(sank, 0, 1)) return -20 - i;
            if (scene.seen.size + came.size >= MOST_SEEN) return FULL;
            came.add(thumb, depth, sank == 1);
        }
        for (int i = 0; i < came.size; i++) scene.seen.add(came.thumbs[i], came.depths[i], came.sank[i]);
        readFault = found;
        return came.size;
    }

    public int torn() {
        return readFault;
    }

    public int count(int what) {
        switch (what) {
            case 0: return scene.diverCount;
            case 1: return hooks();
            case 2: return scene.seen.size;
            case 3: return bit(kept[0]) + bit(kept[1]);
            case 4: return reader.length;
            case 5: return sheets[0].lane == NONE ? NONE : sheets[0].size;
            default: return BAD;
        }
    }

    // ---- what a number may be

    private static boolean within(int v, int least, int greatest) {
        return v >= least && v <= greatest;
    }

    private static boolean isThumb(int v) {
        return within(v, 0, MOST_THUMB);
    }

    private static boolean isHeavy(int v) {
        return within(v, 1, MOST_HEAVY);
    }

    private static boolean isLate(int v) {
        return within(v, 0, MOST_LATE);
    }

    private static boolean isStep(int v) {
        return within(v, 1, MOST_STEP);
    }

    private static boolean isSheet(int k) {
        return within(k, 0, SHEETS - 1);
    }

    private static boolean isLane(int lane) {
        return within(lane, 0, LANES - 1);
    }

    private boolean isDiver(int k) {
        return within(k, 0, scene.diverCount - 1);
    }

    private boolean isDepth(int depth) {
        return within(depth, 0, water.rules[HEIGHT]);
    }

    private boolean canHold(int k, int depth, int t, int n) {
        return isDiver(k) && within(depth, 1, water.rules[HEIGHT] - 1) && isThumb(t) && within(n, 1, MOST_TICKS);
    }

    // ---- dividing

    /** For what is not below 0. */
    private static int divideUp(int a, int b) {
        return b <= 0 ? 0 : (a + b - 1) / b;
    }

    /** Of what is not below 0 this is divided down too. */
    private static int divideCut(int a, int b) {
        return b <= 0 ? 0 : a / b;
    }

    private static int bit(boolean b) {
        return b ? 1 : 0;
    }

    // ---- divers

    private int weightOf(Diver d, int depth, int thumb) {
        return water.weight(d.heavy + d.load, d.bubble, scene.warmth, depth, thumb);
    }

    private int diversAt(int fine) {
        int bits = 0;
        for (int k = 0; k < scene.diverCount; k++) {
            if (scene.divers[k].fine == fine) bits |= 1 << k;
        }
        return bits;
    }

    private int hooks() {
        int many = 0;
        for (int k = 0; k < scene.diverCount; k++) many += bit(scene.divers[k].hook);
        return many;
    }

    private void moveDiver(Diver d) {
        int before = d.fine;
        d.move(weightOf(d, d.depth(), scene.thumb), water.rules[DRAG], water.floor());
        if (d.fine == before) return;
        if (d.fine == water.floor()) comeToFloor(d);
        if (d.fine == 0) comeToTop(d);
    }

    private void comeToFloor(Diver d) {
        d.bubble = Math.max(0, d.bubble - d.leak);
        if (!d.hook || !scene.ringLies) return;
        d.load = water.rules[RING];
        scene.ringLies = false;
    }

    private void comeToTop(Diver d) {
        if (d.load == 0) return;
        d.load = 0;
        scene.fetched++;
    }

    /** GOES AT, of a DIVER that there is. */
    private int thumbOf(int k) {
        Diver d = scene.divers[k];
        int lift = d.heavy + d.load - water.lighterAt(0);
        if (lift <= 0) return NONE;
        // VOLUME is below lift from the first PRESS on that is above BUBBLE times warm by lift
        int pressed = divideCut(d.bubble * scene.warmth, lift) + 1;
        int thumb = Math.max(0, pressed - water.pressAt(0, 0));
        return thumb > MOST_THUMB ? NONE : thumb;
    }

    private int diversAhead(int k) {
        int ahead = 0;
        for (int other = 0; other < scene.diverCount; other++) {
            if (other != k && isAhead(other, k)) ahead++;
        }
        return ahead;
    }

    private boolean isAhead(int k, int other) {
        int a = thumbOf(k), b = thumbOf(other);
        if (a == b) return k < other;
        return b == NONE || (a != NONE && a < b);
    }

    private boolean leavesAt(Diver d, int warmth, boolean down) {
        int mass = d.heavy + d.load;
        if (down) return water.weight(mass, d.bubble, warmth, water.rules[HEIGHT], 0) < 0;
        return water.weight(mass, d.bubble, warmth, 0, 0) > 0;
    }

    private boolean canBe(Diver d) {
        Seen seen = scene.seen;
        for (int i = 0; i < seen.size; i++) {
            boolean sinks = weightOf(d, seen.depths[i], seen.thumbs[i]) > 0;
            if (sinks != seen.sank[i]) return false;
        }
        return true;
    }

    // ---- bubbles: the more of it, the less the WEIGHT, so each kind is a range

    /** The least BUBBLE with which WEIGHT is 0 or below; it may be more than there can be. */
    private int floatsFrom(int mass, int depth, int thumb) {
        int volume = mass - water.lighterAt(depth);
        return water.leastBubble(volume, scene.warmth, water.pressAt(depth, thumb));
    }

    /** The least BUBBLE with which WEIGHT is below 0, THUMB 0. */
    private int risesFrom(int mass, int depth) {
        return floatsFrom(mass + 1, depth, 0);
    }

    private int comesBackFrom(int heavy) {
        return Math.max(risesFrom(heavy, 0), risesFrom(heavy, water.rules[HEIGHT]));
    }

    private int leastAtThumb(int heavy, int thumb) {
        return thumb == 0 ? 0 : floatsFrom(heavy, 0, thumb - 1);
    }

    private int greatestAtThumb(int heavy, int thumb) {
        return floatsFrom(heavy, 0, thumb) - 1;
    }

    private static int tellRange(int least, int greatest, int what) {
        int most = Math.min(greatest, MOST_BUBBLE);
        if (what == 0) return Math.max(0, most - least + 1);
        if (most < least) return NONE;
        return what == 1 ? least : most;
    }

    private void findGoers(int heavy) {
        int back = comesBackFrom(heavy);
        for (int thumb = 0; thumb <= MOST_THUMB; thumb++) {
            int least = Math.max(back, leastAtThumb(heavy, thumb));
            goers[thumb] = tellRange(least, greatestAtThumb(heavy, thumb), 0) > 0;
        }
    }

    private int firstGoer() {
        for (int thumb = 0; thumb <= MOST_THUMB; thumb++) {
            if (goers[thumb]) return thumb;
        }
        return NONE;
    }

    /** How many THUMBS can be taken, each so far from the one before: taking the next one at once leaves most. */
    private int goersApart(int gap) {
        int many = 0, next = 0;
        for (int thumb = 0; thumb <= MOST_THUMB; thumb++) {
            if (!goers[thumb] || thumb < next) continue;
            many++;
            next = thumb + gap;
        }
        return many;
    }

    private int greatestGap(int n) {
        int fits = 1, tooWide = MOST_THUMB + 1;
        for (int turn = 0; turn <= MOST_THUMB && tooWide - fits > 1; turn++) {
            int middle = (fits + tooWide) >> 1;
            if (goersApart(middle) >= n) fits = middle;
            else tooWide = middle;
        }
        return fits;
    }

    // ---- a hand

    private void tryHold(int k, int depth, int t, int late, int step, int n) {
        hand.takeUp(scene.divers[k], depth, t);
        for (int tick = 1; tick <= n && hand.lostAt == NONE; tick++) {
            hand.turnThumb(tick - 1, late, step);
            int weight = weightOf(hand.held, hand.held.depth(), hand.thumb);
            hand.held.move(weight, water.rules[DRAG], water.floor());
            hand.mark(tick, water.floor());
        }
    }

    // ---- the parts

    /** RULES as they are told, and what water does to a BUBBLE. */
    private static final class Water {
        final int[] rules = new int[RULES];
        final int[] warmths = new int[HOURS];

        Water() {
            begin();
            fillWarmths();
        }

        /** No WARMTH is 0, so 0 stands for an HOUR that is not told. */
        void begin() {
            for (int i = 0; i < RULES; i++) rules[i] = RULE_FIRST[i];
            for (int i = 0; i < HOURS; i++) warmths[i] = 0;
        }

        void fillWarmths() {
            for (int i = 0; i < HOURS; i++) {
                if (warmths[i] == 0) warmths[i] = rules[WARM];
            }
        }

        void copyFrom(Water other) {
            for (int i = 0; i < RULES; i++) rules[i] = other.rules[i];
            for (int i = 0; i < HOURS; i++) warmths[i] = other.warmths[i];
        }

        int floor() {
            return rules[HEIGHT] * FINE;
        }

        int pressAt(int depth, int thumb) {
            return rules[AIR] + thumb + depth;
        }

        int lighterAt(int depth) {
            return depth >= rules[SALT] ? rules[MORE] : 0;
        }

        int weight(int mass, int bubble, int warmth, int depth, int thumb) {
            int volume = divideCut(bubble * warmth, pressAt(depth, thumb));
            return mass - volume - lighterAt(depth);
        }

        int leastBubble(int volume, int warmth, int pressed) {
            return volume <= 0 ? 0 : divideUp(volume * pressed, warmth);
        }
    }

    /** A DIVER; his LOAD is above 0 just when he has THE RING. */
    private static final class Diver {
        int heavy, bubble, leak, rate, load, fine, pace;
        boolean hook;

        void begin(int toldHeavy, int toldBubble) {
            heavy = toldHeavy;
            bubble = toldBubble;
            leak = 0;
            rate = 0;
            hook = false;
            load = 0;
            fine = 0;
            pace = 0;
        }

        void copyFrom(Diver other) {
            heavy = other.heavy;
            bubble = other.bubble;
            leak = other.leak;
            rate = other.rate;
            hook = other.hook;
            load = other.load;
            fine = other.fine;
            pace = other.pace;
        }

        int depth() {
            return divideCut(fine, FINE);
        }

        void move(int weight, int drag, int floor) {
            pace += weight;
            pace -= divideCut(pace, drag);
            fine += pace;
            if (fine <= 0 && pace < 0) stopAt(0);
            if (fine >= floor && pace > 0) stopAt(floor);
        }

        private void stopAt(int place) {
            fine = place;
            pace = 0;
        }
    }

    /** SEEN. */
    private static final class Seen {
        final int[] thumbs = new int[MOST_SEEN];
        final int[] depths = new int[MOST_SEEN];
        final boolean[] sank = new boolean[MOST_SEEN];
        int size;

        boolean add(int thumb, int depth, boolean didSink) {
            if (size >= MOST_SEEN) return false;
            thumbs[size] = thumb;
            depths[size] = depth;
            sank[size] = didSink;
            size++;
            return true;
        }

        void copyFrom(Seen other) {
            size = 0;
            for (int i = 0; i < other.size; i++) add(other.thumbs[i], other.depths[i], other.sank[i]);
        }
    }

    /** All that goes on in the bottle, which is what an IMAGE keeps. */
    private static final class Scene {
        final Diver[] divers = new Diver[DIVERS];
        final Seen seen = new Seen();
        int diverCount, thumb, warmth, ticks, fetched;
        boolean ringLies;

        Scene() {
            for (int k = 0; k < DIVERS; k++) divers[k] = new Diver();
        }

        void begin(Water water, Diver[] told, int many) {
            copyDivers(told, many);
            seen.size = 0;
            thumb = 0;
            warmth = water.rules[WARM];
            ticks = 0;
            fetched = 0;
            ringLies = water.rules[RING] > 0;
        }

        void copyFrom(Scene other) {
            copyDivers(other.divers, other.diverCount);
            seen.copyFrom(other.seen);
            thumb = other.thumb;
            warmth = other.warmth;
            ticks = other.ticks;
            fetched = other.fetched;
            ringLies = other.ringLies;
        }

        private void copyDivers(Diver[] from, int many) {
            diverCount = Math.min(many, DIVERS);
            for (int k = 0; k < diverCount; k++) divers[k].copyFrom(from[k]);
        }
    }

    /** A HOLD: a likeness of the DIVER, and where he was the last TICKS, for the hand that sees him late. */
    private static final class Hand {
        final Diver held = new Diver();
        final int[] trail = new int[MOST_LATE + 1];
        int target, thumb, lostAt, farthest;

        void takeUp(Diver d, int depth, int thumbFirst) {
            held.copyFrom(d);
            target = depth * FINE;
            held.fine = target;
            held.pace = 0;
            thumb = thumbFirst;
            lostAt = NONE;
            farthest = 0;
        }

        void turnThumb(int time, int late, int step) {
            trail[Math.floorMod(time, trail.length)] = held.fine;
            int sight = time < late ? target : trail[Math.floorMod(time - late, trail.length)];
            if (sight < target) thumb = Math.min(MOST_THUMB, thumb + step);
            if (sight > target) thumb = Math.max(0, thumb - step);
        }

        void mark(int tick, int floor) {
            farthest = Math.max(farthest, Math.abs(held.fine - target));
            if (held.fine == 0 || held.fine == floor) lostAt = tick;
        }
    }

    /** A SHEET: its CELLS are held as ints, cut to its lane when they are laid. */
    private static final class Sheet {
        final int[] cells = new int[CELLS];
        /** NONE: the SHEET is nothing. */
        int lane = NONE;
        int size;

        void renew(int newLane, int n) {
            lane = newLane;
            size = Math.min(n, CELLS);
            for (int i = 0; i < CELLS; i++) cells[i] = 0;
        }

        int faultAt(int i) {
            if (lane == NONE) return NULL;
            return within(i, 0, size - 1) ? WHOLE : INDEX;
        }

        /** As the machine casts ahead of each CELL, and casts nothing to any lane. */
        int faultOfThree(int asked, int at) {
            if (lane != NONE && lane != asked) return CAST;
            int found = faultAt(at);
            if (found == WHOLE) found = faultAt(at + 1);
            if (found == WHOLE) found = faultAt(at + 2);
            return found;
        }

        void put(int i, int v) {
            if (faultAt(i) != WHOLE) return;
            if (lane == BYTES) cells[i] = (byte) v;
            else if (lane == SHORTS) cells[i] = (short) v;
            else cells[i] = v;
        }
    }

    /** THE TAPE and what it tells: kept apart from the bottle till the whole text is taken. */
    private static final class Reader {
        private static final int AT_END = 0, NAME = 1, NUMBER = 2, STOP = 3, BLANK = 4, OTHER = 5;

        final byte[] tape = new byte[TAPE];
        final Water water = new Water();
        final Diver[] divers = new Diver[DIVERS];
        final boolean[] told = new boolean[RULES];
        int length, diverCount, lines, faultKind, faultPlace;
        private int place, kind, start, number;

        Reader() {
            for (int k = 0; k < DIVERS; k++) divers[k] = new Diver();
        }

        boolean append(long v) {
            if (length + 8 > TAPE) return false;
            for (int shift = 56; shift >= 0; shift -= 8) {
                tape[length] = (byte) (v >> shift);
                length++;
            }
            return true;
        }

        boolean takeText() {
            begin();
            // each line takes bytes: there are no more of them than bytes
            for (int turn = 0; turn <= TAPE; turn++) {
                if (!nextToken()) return false;
                if (kind == AT_END) {
                    water.fillWarmths();
                    return true;
                }
                boolean good = isName("diver") ? takeDiver() : isName("hour") ? takeHour() : takeRuleLine();
                if (!good) return false;
                lines++;
            }
            return fail(MISPLACED);
        }

        private void begin() {
            water.begin();
            for (int i = 0; i < RULES; i++) told[i] = false;
            diverCount = 0;
            lines = 0;
            place = 0;
            faultKind = 0;
            faultPlace = 0;
        }

        /** The place of a FAULT is always where the TOKEN begins at which it is met. */
        private boolean fail(int why) {
            faultKind = why;
            faultPlace = start;
            return false;
        }

        // ---- tokens

        private int kindAt(int i) {
            if (i < 0 || i >= length || i >= TAPE) return AT_END;
            int b = tape[i];
            if (b == ' ') return BLANK;
            if (b == ';') return STOP;
            if (b >= 'a' && b <= 'z') return NAME;
            return b >= '0' && b <= '9' ? NUMBER : OTHER;
        }

        private boolean nextToken() {
            while (place < length && kindAt(place) == BLANK) place++;
            start = place;
            kind = kindAt(place);
            if (kind == OTHER) return fail(NO_TOKEN);
            if (kind == STOP) place++;
            if (kind == NAME || kind == NUMBER) {
                while (place < length && kindAt(place) == kind) place++;
            }
            return kind != NUMBER || place - start <= FIGURES || fail(NO_TOKEN);
        }

        private boolean isName(String name) {
            if (kind != NAME || place - start != name.length() || place > TAPE) return false;
            for (int i = 0; i < name.length(); i++) {
                if (tape[start + i] != name.charAt(i)) return false;
            }
            return true;
        }

        private boolean takeNumber(int least, int greatest) {
            if (!nextToken()) return false;
            if (kind != NUMBER) return fail(MISPLACED);
            number = 0;
            for (int i = start; i < place && i < TAPE; i++) number = number * 10 + tape[i] - '0';
            return within(number, least, greatest) || fail(OUT_OF_BOUNDS);
        }

        private boolean takeStop() {
            if (!nextToken()) return false;
            return kind == STOP || fail(MISPLACED);
        }

        // ---- lines

        private boolean takeRuleLine() {
            int rule = ruleNamed();
            if (rule == NONE) return fail(MISPLACED);
            if (told[rule]) return fail(AGAIN);
            told[rule] = true;
            if (!takeRule(rule)) return false;
            if (rule == SALT && !takeRule(MORE)) return false;
            return takeStop();
        }

        private int ruleNamed() {
            if (isName("height")) return HEIGHT;
            if (isName("air")) return AIR;
            if (isName("warm")) return WARM;
            if (isName("drag")) return DRAG;
            if (isName("salt")) return SALT;
            return isName("ring") ? RING : NONE;
        }

        private boolean takeRule(int rule) {
            if (!takeNumber(RULE_LEAST[rule], RULE_MOST[rule])) return false;
            water.rules[rule] = number;
            return true;
        }

        private boolean takeHour() {
            if (!takeNumber(0, HOURS - 1)) return false;
            int hour = number;
            if (water.warmths[hour] != 0) return fail(AGAIN);
            if (!takeNumber(RULE_LEAST[WARM], RULE_MOST[WARM])) return false;
            water.warmths[hour] = number;
            return takeStop();
        }

        private boolean takeDiver() {
            if (diverCount >= DIVERS) return fail(ONE_TOO_MANY);
            Diver d = divers[diverCount];
            diverCount++;
            if (!takeNumber(1, MOST_HEAVY)) return false;
            int heavy = number;
            if (!takeNumber(0, MOST_BUBBLE)) return false;
            d.begin(heavy, number);
            return takeWiths(d);
        }

        private boolean takeWiths(Diver d) {
            boolean leaks = false, rates = false;
            // each with can stand once: behind three of them the line ends
            for (int turn = 0; turn <= 3; turn++) {
                if (!nextToken()) return false;
                if (kind == STOP) return true;
                if (isName("leak")) {
                    if (leaks) return fail(AGAIN);
                    leaks = true;
                    if (!takeNumber(0, MOST_LEAK)) return false;
                    d.leak = number;
                } else if (isName("rate")) {
                    if (rates) return fail(AGAIN);
                    rates = true;
                    if (!takeNumber(0, MOST_RATE)) return false;
                    d.rate = number;
                } else if (isName("hook")) {
                    if (d.hook) return fail(AGAIN);
                    d.hook = true;
                } else {
                    return fail(MISPLACED);
                }
            }
            return fail(MISPLACED);
        }
    }
}
