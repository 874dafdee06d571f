/**
 * Teddy bears as witnesses: courts of bears read from texts, what is done to
 * the bears, what they tell, whom to call, and what can be known by looks.
 *
 * Every call answers a number; nothing is ever thrown. All rows are made once,
 * so that no call after the constructor needs new room (but for the first
 * keep() in each place).
 */
public final class BearWitness {
    public static final int BAD = -1, FULL = -2, FINDING = -3, STATE = -4, SPENT = -6, NONE = -9;

    private static final int NOTHING = 1, BEYOND = 2, UNLIKE = 3, NOUGHT = 4, SIZE = 5;

    private static final int BEAR = 0, LOVED = 1, PANDA = 2, MOTHY = 3, ROYAL = 4, RICH = 5;
    private static final int KIND_COUNT = 6;

    private static final int PRESSED = 0, MENDED = 1, EYE_OFF = 2, TURNED = 3, IDLE = 4;

    private static final int ROW_COUNT = 6, ROW_WIDTH = 40;
    private static final int TEXT_COUNT = 4, TEXT_WIDTH = 60, BLANK = 32;
    private static final int THING_COUNT = 6, ALL_THINGS = 63, EVEN_THINGS = 21;
    private static final int MOST_BEARS = 6, MOST_EYES = 2, MOST_WEAR = 9;
    private static final int TURNS_ROUND = 5, RICH_KNOWS_NONE = 3;
    private static final int MOST_DEEDS = 40, KEPT_COUNT = 3;
    private static final int MOST_PRESSES = 4, MOST_TURNS = 2, MOST_PAIRS = 8;
    private static final int CHANCE_PARTS = 12;
    private static final long LOT_FACTOR = 48271, LOT_MODULUS = 2147483647;
    private static final int MOST_LOTS = 20, MOST_SEED = 2147483646;
    private static final int COUNT_COUNT = 12, OF_BEAR_COUNT = 6;

    private final Shelf rows = new Shelf(ROW_COUNT, ROW_WIDTH);
    private final Shelf texts = new Shelf(TEXT_COUNT, TEXT_WIDTH);
    private final Court now = new Court();
    private final Court draft = new Court();
    private final Court[] kept = new Court[KEPT_COUNT];
    private final Reader reader = new Reader();
    private final Looks looks = new Looks();
    private final Tally tally = new Tally();
    private final Trial trial = new Trial();
    private final Cells findingCounts = new Cells(SIZE + 1);
    private int lastFinding = 0;
    private int lastAsked = 0;
    private long lastUpper = 0;
    private long lastLower = 1;

    public BearWitness() {
    }

    // ---- 1 rows, texts, courts

    public int row(int r, int n) {
        if (!rows.isNumber(r) || n > ROW_WIDTH) return BAD;
        if (n < 0) return found(SIZE);
        rows.make(r, n, 0);
        return n;
    }

    public int lay(int r, int i, int v) {
        if (!rows.isNumber(r)) return BAD;
        int missing = missingPlace(rows, r, i);
        if (missing != 0) return found(missing);
        lastAsked = rows.get(r, i);
        rows.set(r, i, v);
        return 1;
    }

    public int at(int r, int i) {
        if (!rows.isNumber(r)) return BAD;
        int missing = missingPlace(rows, r, i);
        if (missing != 0) return found(missing);
        lastAsked = rows.get(r, i);
        return 1;
    }

    public int tear(int r) {
        if (!rows.isNumber(r)) return BAD;
        if (!rows.has(r)) return found(NOTHING);
        rows.drop(r);
        return 1;
    }

    public int copy(int r, int i, int to, int j, int n) {
        if (!rows.isNumber(r) || !rows.isNumber(to)) return BAD;
        if (n < 0) return found(SIZE);
        if (!rows.has(r) || !rows.has(to)) return found(NOTHING);
        if (!rows.hasSpan(r, i, n) || !rows.hasSpan(to, j, n)) return found(BEYOND);
        rows.move(r, i, to, j, n);
        return 1;
    }

    public int mean(int r) {
        if (!rows.isNumber(r)) return BAD;
        if (!rows.has(r)) return found(NOTHING);
        int size = rows.sizeOf(r);
        if (size <= 0) return found(NOUGHT);
        lastAsked = (int) (rows.sumOf(r) / size);
        return 1;
    }

    public int text(int t, int n) {
        if (!texts.isNumber(t) || n > TEXT_WIDTH) return BAD;
        if (n < 0) return found(SIZE);
        texts.make(t, n, BLANK);
        return n;
    }

    public int put(int t, int i, int v) {
        if (!texts.isNumber(t)) return BAD;
        int missing = missingPlace(texts, t, i);
        if (missing != 0) return found(missing);
        int was = texts.get(t, i);
        texts.set(t, i, (byte) v);
        return was + 1000;
    }

    public int fault(int t) {
        if (!texts.isNumber(t)) return BAD;
        if (!texts.has(t)) return found(NOTHING);
        return reader.readInto(draft, texts, t);
    }

    public int court(int t) {
        if (!texts.isNumber(t)) return BAD;
        if (!texts.has(t)) return found(NOTHING);
        if (reader.readInto(draft, texts, t) != NONE) return STATE;
        now.take(draft);
        for (int k = 0; k < KEPT_COUNT; k++) forgetKept(k);
        return now.bears;
    }

    public int bear(int i, int what) {
        if (!now.hasBear(i) || what < 0 || what >= OF_BEAR_COUNT) return BAD;
        lastAsked = ofBear(i, what);
        return 1;
    }

    public int mark(int i, int kind) {
        if (!now.hasBear(i) || kind <= BEAR || kind >= KIND_COUNT) return BAD;
        if (!isOfKind(now.kind.get(i), kind)) return found(UNLIKE);
        return now.markOf(i, kind);
    }

    // ---- 2 deeds

    public int press(int i) {
        return answerDeed(PRESSED, i);
    }

    public int mend(int i) {
        return answerDeed(MENDED, i);
    }

    public int eye(int i) {
        return answerDeed(EYE_OFF, i);
    }

    public int turn(int i) {
        return answerDeed(TURNED, i);
    }

    public int undo(int n) {
        if (n < 0 || n > now.deeds) return BAD;
        int undone = now.deeds - n;
        now.takeBackTo(n);
        return undone;
    }

    public int keep(int k) {
        if (k < 0 || k >= kept.length) return BAD;
        if (now.bears == 0) return STATE;
        Court place = kept[k];
        if (place == null) {
            place = new Court();
            kept[k] = place;
        }
        place.take(now);
        return now.deeds;
    }

    public int on(int k) {
        if (k < 0 || k >= KEPT_COUNT) return BAD;
        Court from = keptIn(k);
        if (from == null) return found(NOTHING);
        now.take(from);
        return now.deeds;
    }

    // ---- 3 what is told, shown (aside)

    public int tells(int i, int thing) {
        if (!now.hasBear(i) || !isThing(thing)) return BAD;
        return now.answerOf(i, thing);
    }

    public int shown(int set) {
        if (!now.isSet(set)) return BAD;
        if (now.bears == 0) return STATE;
        tally.hear(now);
        lastAsked = tally.tiedBy(set);
        return tally.shownBy(set);
    }

    // ---- 4 whom to call (aside)

    public int call(int thing) {
        if (!isThing(thing)) return BAD;
        if (now.bears == 0) return STATE;
        tally.hear(now);
        int best = 0;
        int least = 1000;
        for (int set = 1; set <= now.allBears(); set++) {
            int shownThings = tally.shownBy(set);
            // Eight outweighs all THINGS, so that fewer BEARS always come first.
            int cost = 8 * Integer.bitCount(set) + Integer.bitCount(shownThings);
            if (isIn(shownThings, thing) && cost < least) {
                best = set;
                least = cost;
            }
        }
        if (best == 0) return NONE;
        lastAsked = best;
        return Integer.bitCount(best);
    }

    public int shake(int thing, int set, int r) {
        if (!isThing(thing) || !now.isSet(set) || !rows.isNumber(r)) return BAD;
        if (now.bears == 0) return STATE;
        trial.open(now, thing, set);
        int presses = trial.fewestPresses();
        if (presses == NONE) return NONE;
        rows.make(r, presses, 0);
        for (int i = 0; i < presses; i++) rows.set(r, i, trial.pressed.get(i));
        return presses;
    }

    public int cover(int things) {
        if (things < 0 || things > ALL_THINGS) return BAD;
        if (now.bears == 0) return STATE;
        tally.hear(now);
        int best = NONE;
        for (int set = 0; set <= now.allBears(); set++) {
            boolean tellsAll = (tally.toldBy(set) & things) == things;
            if (tellsAll && isFewer(set, best)) best = set;
        }
        if (best == NONE) return NONE;
        lastAsked = best;
        return Integer.bitCount(best);
    }

    public int rivals(int i, int j) {
        if (!now.hasBear(i) || !now.hasBear(j) || i == j) return BAD;
        tally.hear(now);
        return tally.clash(i, j);
    }

    public int apart() {
        if (now.bears == 0) return STATE;
        tally.hear(now);
        int best = NONE;
        for (int set = 0; set <= now.allBears(); set++) {
            boolean atPeace = !tally.hasRivals(now.allBears() & ~set);
            if (atPeace && isFewer(set, best)) best = set;
        }
        // With all left out nobody is a rival: some set is always found.
        lastAsked = best;
        return Integer.bitCount(best);
    }

    // ---- 5 by looks

    public int truths(int r) {
        int refused = readLooks(r);
        if (refused != 0) return refused;
        long sets = looks.fittingSets(now);
        lastAsked = leastOf(sets);
        tellPart(Long.bitCount(sets), 1);
        return 1;
    }

    public int sure(int r) {
        int refused = readLooks(r);
        if (refused != 0) return refused;
        long sets = looks.fittingSets(now);
        int inEach = 0;
        int inNone = 0;
        for (int thing = 0; thing < THING_COUNT; thing++) {
            if ((sets & ~Looks.setsWith(thing)) == 0) inEach |= 1 << thing;
            if ((sets & Looks.setsWith(thing)) == 0) inNone |= 1 << thing;
        }
        lastAsked = inNone;
        return inEach;
    }

    public int next(int r) {
        int refused = readLooks(r);
        if (refused != 0) return refused;
        long sets = looks.fittingSets(now);
        if (sets == 0) return NONE;
        int best = 0;
        int least = 1000;
        for (int i = 0; i < now.bears; i++) {
            for (int thing = 0; thing < THING_COUNT; thing++) {
                int part = greatestPart(i, thing, sets);
                if (part < least) {
                    best = 8 * i + thing;
                    least = part;
                }
            }
        }
        lastAsked = least;
        return best;
    }

    public int kinds(int i, int r) {
        if (!now.hasBear(i)) return BAD;
        int refused = readLooks(r);
        if (refused != 0) return refused;
        int can = 0;
        for (int kind = 0; kind < KIND_COUNT; kind++) {
            if (looks.fitKind(now, i, kind)) can |= 1 << kind;
        }
        return can;
    }

    public int walls(int r) {
        int refused = readLooks(r);
        if (refused != 0) return refused;
        int spoke = looks.whoSpoke();
        lastAsked = spoke;
        return looks.whoKeptBack(now) & ~spoke;
    }

    // ---- 6 by turns

    public int duel(int thing, int n) {
        if (!isThing(thing) || n < 0 || n > MOST_TURNS) return BAD;
        if (now.bears == 0) return STATE;
        trial.open(now, thing, now.allBears());
        lastAsked = trial.playOut(2 * n);
        return 1;
    }

    // ---- 7 chances, lots

    public int odds(int thing, int p) {
        if (!isThing(thing) || !isChance(p)) return BAD;
        if (now.bears == 0) return STATE;
        tally.hear(now);
        long part = 0;
        for (int set = 0; set <= now.allBears(); set++) {
            if (isIn(tally.shownBy(set), thing)) part += weightOf(set, p);
        }
        tellPart(part, allWeight());
        return 1;
    }

    public int mid(int p) {
        if (!isChance(p)) return BAD;
        if (now.bears == 0) return STATE;
        tally.hear(now);
        long sum = 0;
        for (int set = 0; set <= now.allBears(); set++) {
            sum += weightOf(set, p) * Integer.bitCount(tally.shownBy(set));
        }
        tellPart(sum, allWeight());
        return 1;
    }

    public int lots(int n, int seed) {
        if (n < 1 || n > MOST_LOTS || seed < 1 || seed > MOST_SEED) return BAD;
        int bears = now.bears;
        if (bears <= 0) return STATE;
        if (now.deeds + n > MOST_DEEDS) return FULL;
        long lot = seed;
        for (int d = 0; d < n; d++) {
            lot = lot * LOT_FACTOR % LOT_MODULUS;
            int i = (int) (lot % bears);
            int act = actOfLot((int) (lot / 8 % 8));
            now.commit(now.canBe(act, i) ? act : IDLE, i);
        }
        return Integer.bitCount(shownByAll());
    }

    // ---- 8 what is told

    public int asked() {
        return lastAsked;
    }

    public long upper() {
        return lastUpper;
    }

    public long lower() {
        return lastLower;
    }

    public int count(int what) {
        switch (what) {
            case 0: return now.bears;
            case 1: return now.done;
            case 2: return now.deeds;
            case 3: return now.wall;
            case 4: return shownByAll();
            case 5: return now.wear.sum(now.bears);
            case 6: return now.eyes.sum(now.bears);
            case 7: return now.thoseOfKind(LOVED);
            case 8: return now.thoseOfKind(MOTHY);
            case 9: return rows.thoseThere();
            case 10: return texts.thoseThere();
            case 11: return keptCourts();
            default: return BAD;
        }
    }

    public int finding() {
        return lastFinding;
    }

    public int findings(int f) {
        if (f < NOTHING || f > SIZE) return BAD;
        return findingCounts.get(f);
    }

    public long digest() {
        long h = 17;
        for (int what = 0; what < COUNT_COUNT; what++) h = 31 * h + count(what);
        for (int i = 0; i < now.bears; i++) {
            for (int what = 0; what < OF_BEAR_COUNT; what++) h = 31 * h + ofBear(i, what);
            for (int thing = 0; thing < THING_COUNT; thing++) h = 31 * h + now.answerOf(i, thing);
        }
        for (int k = 0; k < KEPT_COUNT; k++) {
            Court place = keptIn(k);
            h = 31 * h + (place == null ? -1 : place.deeds);
        }
        return texts.digestFrom(rows.digestFrom(h));
    }

    // ---- what the calls share

    private int found(int finding) {
        lastFinding = finding;
        findingCounts.set(finding, findingCounts.get(finding) + 1);
        return FINDING;
    }

    private static int missingPlace(Shelf shelf, int r, int i) {
        if (!shelf.has(r)) return NOTHING;
        return shelf.hasPlace(r, i) ? 0 : BEYOND;
    }

    private int ofBear(int i, int what) {
        switch (what) {
            case 0: return now.kind.get(i);
            case 1: return now.eyes.get(i);
            case 2: return now.wear.get(i);
            case 3: return now.view.get(i);
            case 4: return isIn(now.wall, i) ? 1 : 0;
            default: return now.toldOf(i, now.kind.get(i), now.wear.get(i));
        }
    }

    private int answerDeed(int act, int i) {
        if (!now.hasBear(i)) return BAD;
        if (!now.canBe(act, i)) return STATE;
        if (now.deeds >= MOST_DEEDS) return FULL;
        now.commit(act, i);
        if (act == TURNED) return isIn(now.wall, i) ? 1 : 0;
        return act == EYE_OFF ? now.eyes.get(i) : now.wear.get(i);
    }

    private static int actOfLot(int lot) {
        if (lot <= 3) return PRESSED;
        if (lot <= 5) return MENDED;
        return lot == 6 ? EYE_OFF : TURNED;
    }

    /** The COURT that is kept in a place; null: there is none. */
    private Court keptIn(int k) {
        if (k < 0 || k >= kept.length) return null;
        Court place = kept[k];
        // Only COURTS with BEARS are kept: one without is but room for the next.
        return place != null && place.bears > 0 ? place : null;
    }

    private void forgetKept(int k) {
        Court place = keptIn(k);
        if (place != null) place.clear();
    }

    private int keptCourts() {
        int there = 0;
        for (int k = 0; k < KEPT_COUNT; k++) {
            if (keptIn(k) != null) there++;
        }
        return there;
    }

    private int shownByAll() {
        tally.hear(now);
        return tally.shownBy(now.allBears());
    }

    /** Reads a ROW of pairs: 0, or what the call answers, being refused. */
    private int readLooks(int r) {
        if (!rows.isNumber(r)) return BAD;
        if (now.bears == 0) return STATE;
        int finding = looks.readFrom(rows, r, now.bears);
        return finding == 0 ? 0 : found(finding);
    }

    /** How many of these sets there are, at most, by which a BEAR TELLS the same of a THING. */
    private int greatestPart(int i, int thing, long sets) {
        int whole = Long.bitCount(sets);
        int with = Long.bitCount(sets & Looks.setsWith(thing));
        // What it TELLS of a THING hangs on nothing of the set but whether that THING is in it.
        boolean same = now.answerIf(i, now.kind.get(i), thing, 0)
            == now.answerIf(i, now.kind.get(i), thing, ALL_THINGS);
        return same ? whole : Math.max(with, whole - with);
    }

    private static int leastOf(long sets) {
        if (sets == 0) return NONE;
        return Long.bitCount((sets & -sets) - 1);
    }

    private static boolean isFewer(int set, int best) {
        return best == NONE || Integer.bitCount(set) < Integer.bitCount(best);
    }

    private static boolean isThing(int thing) {
        return thing >= 0 && thing < THING_COUNT;
    }

    private static boolean isChance(int p) {
        return p >= 0 && p <= CHANCE_PARTS;
    }

    private static boolean isIn(int set, int i) {
        return (set >> i & 1) == 1;
    }

    private static boolean isOfKind(int kind, int wanted) {
        if (kind == wanted || wanted == BEAR) return true;
        return wanted == LOVED && kind == ROYAL || wanted == MOTHY && kind == RICH;
    }

    /** By how many of allWeight() parts just these BEARS are not silent. */
    private long weightOf(int set, int p) {
        long weight = 1;
        for (int i = 0; i < now.bears; i++) weight *= isIn(set, i) ? CHANCE_PARTS - p : p;
        return weight;
    }

    private long allWeight() {
        long weight = 1;
        for (int i = 0; i < now.bears; i++) weight *= CHANCE_PARTS;
        return weight;
    }

    private void tellPart(long up, long down) {
        long common = commonDivisor(up, down);
        if (common <= 0) return;
        lastUpper = up / common;
        lastLower = down / common;
    }

    private static long commonDivisor(long a, long b) {
        // Euclid needs fewer than a hundred steps for any two longs.
        for (int step = 0; step < 100 && b != 0; step++) {
            long rest = a % b;
            a = b;
            b = rest;
        }
        return a;
    }

    /** Ints that are looked up by an index that has been tested: no index can throw. */
    private static final class Cells {
        private final int[] cells;

        private Cells(int n) {
            cells = new int[n < 0 ? 0 : n];
        }

        private int get(int i) {
            return i >= 0 && i < cells.length ? cells[i] : 0;
        }

        private void set(int i, int v) {
            if (i >= 0 && i < cells.length) cells[i] = v;
        }

        private int sum(int n) {
            int sum = 0;
            for (int i = 0; i < n && i < cells.length; i++) sum += cells[i];
            return sum;
        }

        private void take(Cells other) {
            for (int i = 0; i < cells.length; i++) cells[i] = other.get(i);
        }

        private void move(int from, int to, int n) {
            if (n < 0 || n > cells.length || from < 0 || to < 0) return;
            if (from > cells.length - n || to > cells.length - n) return;
            System.arraycopy(cells, from, cells, to, n);
        }
    }

    /** Rows by numbers, each of its own size, or missing: the ROWS, and the TEXTS. */
    private static final class Shelf {
        private static final int MISSING = -1;

        private final int number;
        private final int width;
        private final Cells sizes;
        private final Cells places;

        private Shelf(int number, int width) {
            this.number = number;
            this.width = width;
            sizes = new Cells(number);
            places = new Cells(number * width);
            for (int r = 0; r < number; r++) sizes.set(r, MISSING);
        }

        private boolean isNumber(int r) {
            return r >= 0 && r < number;
        }

        private int sizeOf(int r) {
            return isNumber(r) ? sizes.get(r) : MISSING;
        }

        private boolean has(int r) {
            return sizeOf(r) != MISSING;
        }

        private boolean hasPlace(int r, int i) {
            return i >= 0 && i < sizeOf(r);
        }

        private boolean hasSpan(int r, int i, int n) {
            return i >= 0 && n >= 0 && (long) i + n <= sizeOf(r);
        }

        private int get(int r, int i) {
            return hasPlace(r, i) ? places.get(r * width + i) : 0;
        }

        private void set(int r, int i, int v) {
            if (hasPlace(r, i)) places.set(r * width + i, v);
        }

        private void make(int r, int n, int v) {
            if (!isNumber(r) || n < 0 || n > width) return;
            sizes.set(r, n);
            for (int i = 0; i < n; i++) places.set(r * width + i, v);
        }

        private void drop(int r) {
            if (isNumber(r)) sizes.set(r, MISSING);
        }

        private void move(int r, int i, int to, int j, int n) {
            if (!hasSpan(r, i, n) || !hasSpan(to, j, n)) return;
            places.move(r * width + i, to * width + j, n);
        }

        private long sumOf(int r) {
            long sum = 0;
            for (int i = 0; i < sizeOf(r); i++) sum += get(r, i);
            return sum;
        }

        private int thoseThere() {
            int there = 0;
            for (int r = 0; r < number; r++) {
                if (has(r)) there++;
            }
            return there;
        }

        private long digestFrom(long h) {
            for (int r = 0; r < number; r++) {
                h = 31 * h + sizeOf(r);
                for (int i = 0; i < sizeOf(r); i++) h = 31 * h + get(r, i);
            }
            return h;
        }
    }

    /** BEARS, what was DONE, and the DEEDS that made the BEARS what they are. */
    private static final class Court {
        private int bears = 0;
        private int done = 0;
        private int wall = 0;
        private int deeds = 0;
        private final Cells kind = new Cells(MOST_BEARS);
        private final Cells eyes = new Cells(MOST_BEARS);
        private final Cells wear = new Cells(MOST_BEARS);
        private final Cells view = new Cells(MOST_BEARS);
        private final Cells deedActs = new Cells(MOST_DEEDS);
        private final Cells deedBears = new Cells(MOST_DEEDS);

        private void clear() {
            bears = 0;
            done = 0;
            wall = 0;
            deeds = 0;
        }

        private void take(Court other) {
            bears = other.bears;
            done = other.done;
            wall = other.wall;
            deeds = other.deeds;
            kind.take(other.kind);
            eyes.take(other.eyes);
            wear.take(other.wear);
            view.take(other.view);
            deedActs.take(other.deedActs);
            deedBears.take(other.deedBears);
        }

        private void seat(int itsKind, int itsEyes, int itsWear, int itsView) {
            if (bears >= MOST_BEARS) return;
            kind.set(bears, itsKind);
            eyes.set(bears, itsEyes);
            wear.set(bears, itsWear);
            view.set(bears, itsView);
            bears++;
        }

        private boolean hasBear(int i) {
            return i >= 0 && i < bears;
        }

        private boolean isSet(int set) {
            return set >= 0 && set <= allBears();
        }

        private int allBears() {
            return (1 << bears) - 1;
        }

        private int thoseOfKind(int wanted) {
            int sum = 0;
            for (int i = 0; i < bears; i++) {
                if (isOfKind(kind.get(i), wanted)) sum++;
            }
            return sum;
        }

        private boolean canBe(int act, int i) {
            switch (act) {
                case PRESSED: return wear.get(i) < MOST_WEAR;
                case MENDED: return wear.get(i) > 0;
                case EYE_OFF: return eyes.get(i) > 0;
                default: return true;
            }
        }

        private void commit(int act, int i) {
            if (deeds >= MOST_DEEDS) return;
            change(act, i, 1);
            deedActs.set(deeds, act);
            deedBears.set(deeds, i);
            deeds++;
        }

        private void takeBackTo(int n) {
            for (int d = deeds - 1; d >= n && d >= 0; d--) {
                change(deedActs.get(d), deedBears.get(d), -1);
                deeds = d;
            }
        }

        /** A DEED done (by is 1), or taken back (by is -1). */
        private void change(int act, int i, int by) {
            switch (act) {
                case PRESSED:
                    wear.set(i, wear.get(i) + by);
                    break;
                case MENDED:
                    wear.set(i, wear.get(i) - by);
                    break;
                case EYE_OFF:
                    eyes.set(i, eyes.get(i) - by);
                    break;
                case TURNED:
                    wall ^= 1 << i;
                    break;
                default:
                    break;
            }
        }

        /** THINGS that a BEAR SEES, were it of this KIND, with this WEAR. */
        private int seenBy(int i, int asKind, int asWear) {
            if (asWear >= MOST_WEAR) return 0;
            if (asKind == RICH && asWear >= RICH_KNOWS_NONE) return 0;
            int things = view.get(i);
            if (asKind == PANDA) things |= things << 1 & ALL_THINGS;
            if (isOfKind(asKind, LOVED) || eyes.get(i) >= MOST_EYES) return things;
            return eyes.get(i) == 1 ? things & EVEN_THINGS : 0;
        }

        /** THINGS of which it TELLS, were it of this KIND, with this WEAR. */
        private int toldOf(int i, int asKind, int asWear) {
            return isIn(wall, i) ? 0 : seenBy(i, asKind, asWear);
        }

        /** Those of the THINGS told of that a BEAR of a KIND with a WEAR TELLS 1 of, were these DONE. */
        private static int onesOf(int told, int asKind, int asWear, int asDone) {
            if (asKind == ROYAL) return told;
            if (isOfKind(asKind, MOTHY) && asWear >= TURNS_ROUND) return told & ~asDone;
            return told & asDone;
        }

        /** What it TELLS of a THING, were it of this KIND, and these THINGS DONE. */
        private int answerIf(int i, int asKind, int thing, int asDone) {
            int itsWear = wear.get(i);
            int told = toldOf(i, asKind, itsWear);
            if (!isIn(told, thing)) return NONE;
            return isIn(onesOf(told, asKind, itsWear, asDone), thing) ? 1 : 0;
        }

        private int answerOf(int i, int thing) {
            return answerIf(i, kind.get(i), thing, done);
        }

        private int markOf(int i, int asKind) {
            int seen = seenBy(i, kind.get(i), wear.get(i));
            switch (asKind) {
                case LOVED: return Integer.bitCount(view.get(i));
                case PANDA: return Integer.bitCount(seen & ~view.get(i));
                case MOTHY: return Math.max(0, TURNS_ROUND - wear.get(i));
                case ROYAL: return Integer.bitCount(seen & ~done);
                default: return Math.max(0, RICH_KNOWS_NONE - wear.get(i));
            }
        }
    }

    /** Reads a TEXT from its first place on; a FAULT, once met, ends the reading. */
    private static final class Reader {
        // No byte has this value: at the end no letter and no figure fits.
        private static final int END = 256;

        // The TEXT's bytes, taken ahead: calls of the reading go deep, and would go too deep by the Shelf.
        private final Cells bytes = new Cells(TEXT_WIDTH);
        private int size = 0;
        private int place = 0;
        private int met = NONE;

        /** Fills a COURT from a TEXT: NONE, or the FAULT, the COURT being of no use then. */
        private int readInto(Court into, Shelf texts, int t) {
            open(texts, t);
            into.clear();
            skipBlanks();
            if (byteHere() != 'k') return place;
            place++;
            into.done = twoFigures();
            skipBlanks();
            for (int i = 0; i <= MOST_BEARS && met == NONE && (i == 0 || place < size); i++) {
                readBear(into);
                skipBlanks();
            }
            return met;
        }

        private void open(Shelf texts, int t) {
            size = texts.sizeOf(t);
            for (int i = 0; i < size; i++) bytes.set(i, texts.get(t, i));
            place = 0;
            met = NONE;
        }

        private void readBear(Court into) {
            int kind = into.bears < MOST_BEARS ? kindOfLetter(byteHere()) : NONE;
            if (kind == NONE) {
                fail(place);
                return;
            }
            place++;
            int eyes = oneFigure(MOST_EYES);
            int wear = oneFigure(MOST_WEAR);
            int view = twoFigures();
            if (met == NONE) into.seat(kind, eyes, wear, view);
        }

        private void skipBlanks() {
            while (place < size && bytes.get(place) == BLANK) place++;
        }

        private int byteHere() {
            return place < size ? bytes.get(place) : END;
        }

        private void fail(int where) {
            if (met == NONE) met = where;
        }

        private int oneFigure(int most) {
            int value = byteHere() - '0';
            if (value < 0 || value > most) {
                fail(place);
                return 0;
            }
            place++;
            return value;
        }

        private int twoFigures() {
            int first = place;
            int tens = oneFigure(9);
            if (met != NONE) return 0;
            int value = 10 * tens + oneFigure(9);
            if (value > ALL_THINGS) fail(first);
            return value;
        }

        private static int kindOfLetter(int letter) {
            switch (letter) {
                case 'b': return BEAR;
                case 'l': return LOVED;
                case 'p': return PANDA;
                case 'm': return MOTHY;
                case 'g': return ROYAL;
                case 'r': return RICH;
                default: return NONE;
            }
        }
    }

    /** What all BEARS of a COURT TELL, as sets of THINGS: told 1, told 0. */
    private static final class Tally {
        private int bears = 0;
        private final Cells ones = new Cells(MOST_BEARS);
        private final Cells noughts = new Cells(MOST_BEARS);

        private void hear(Court court) {
            bears = court.bears;
            for (int i = 0; i < bears; i++) {
                int kind = court.kind.get(i);
                int wear = court.wear.get(i);
                int told = court.toldOf(i, kind, wear);
                int toldOne = Court.onesOf(told, kind, wear, court.done);
                ones.set(i, toldOne);
                noughts.set(i, told & ~toldOne);
            }
        }

        private int toldBy(int set) {
            int things = 0;
            for (int i = 0; i < bears; i++) {
                if (isIn(set, i)) things |= ones.get(i) | noughts.get(i);
            }
            return things;
        }

        /** How many BEARS of a set more TELL 1 than 0 of a THING. */
        private int balance(int set, int thing) {
            int more = 0;
            for (int i = 0; i < bears; i++) {
                if (!isIn(set, i)) continue;
                if (isIn(ones.get(i), thing)) more++;
                if (isIn(noughts.get(i), thing)) more--;
            }
            return more;
        }

        private int shownBy(int set) {
            int things = 0;
            for (int thing = 0; thing < THING_COUNT; thing++) {
                if (balance(set, thing) > 0) things |= 1 << thing;
            }
            return things;
        }

        private int tiedBy(int set) {
            int things = 0;
            for (int thing = 0; thing < THING_COUNT; thing++) {
                if (balance(set, thing) == 0) things |= 1 << thing;
            }
            return things & toldBy(set);
        }

        private int clash(int i, int j) {
            return ones.get(i) & noughts.get(j) | noughts.get(i) & ones.get(j);
        }

        private boolean hasRivals(int set) {
            int someOnes = 0;
            int someNoughts = 0;
            for (int i = 0; i < bears; i++) {
                if (!isIn(set, i)) continue;
                someOnes |= ones.get(i);
                someNoughts |= noughts.get(i);
            }
            // A BEAR never TELLS both, so that these are of two BEARS.
            return (someOnes & someNoughts) != 0;
        }
    }

    /** One THING tried aside, all as it is but for the WEAR, that is tried up and down. */
    private static final class Trial {
        private static final int WEARS = MOST_WEAR + 1;

        private int bears = 0;
        private int called = 0;
        private int more = 0;
        private final Cells wear = new Cells(MOST_BEARS);
        // What each BEAR adds to `more` at each WEAR: 1, 0, or -1.
        private final Cells worth = new Cells(MOST_BEARS * WEARS);
        private final Cells pressed = new Cells(MOST_PRESSES);

        private void open(Court court, int thing, int set) {
            bears = court.bears;
            called = set;
            more = 0;
            for (int i = 0; i < bears; i++) {
                wear.set(i, court.wear.get(i));
                for (int w = 0; w < WEARS; w++) {
                    worth.set(i * WEARS + w, isIn(set, i) ? worthIf(court, i, w, thing) : 0);
                }
                more += worthNow(i);
            }
        }

        private static int worthIf(Court court, int i, int asWear, int thing) {
            int kind = court.kind.get(i);
            int told = court.toldOf(i, kind, asWear);
            if (!isIn(told, thing)) return 0;
            return isIn(Court.onesOf(told, kind, asWear, court.done), thing) ? 1 : -1;
        }

        private int worthNow(int i) {
            return worth.get(i * WEARS + wear.get(i));
        }

        private boolean canWear(int i, int by) {
            int then = wear.get(i) + by;
            return isIn(called, i) && then >= 0 && then <= MOST_WEAR;
        }

        private void wearBy(int i, int by) {
            more -= worthNow(i);
            wear.set(i, wear.get(i) + by);
            more += worthNow(i);
        }

        /** Fewest presses so that no more TELL 1 than 0; `pressed` has the first such row then. */
        private int fewestPresses() {
            for (int n = 0; n <= MOST_PRESSES; n++) {
                if (pressOn(0, n, 0)) return n;
            }
            return NONE;
        }

        private boolean pressOn(int depth, int n, int from) {
            if (depth >= n || depth >= MOST_PRESSES) return more <= 0;
            for (int i = from; i < bears; i++) {
                if (!canWear(i, 1)) continue;
                pressed.set(depth, i);
                wearBy(i, 1);
                boolean shaken = pressOn(depth + 1, n, i);
                wearBy(i, -1);
                if (shaken) return true;
            }
            return false;
        }

        /** What `more` comes to by best play. */
        private int playOut(int turns) {
            if (turns <= 0 || turns > 2 * MOST_TURNS) return more;
            // Both have as many turns: while an even number is left it is the first one's.
            boolean firstOnes = turns % 2 == 0;
            int by = firstOnes ? -1 : 1;
            int best = playOut(turns - 1);
            for (int i = 0; i < bears; i++) {
                if (!canWear(i, by)) continue;
                wearBy(i, by);
                int then = playOut(turns - 1);
                wearBy(i, -by);
                best = firstOnes ? Math.max(best, then) : Math.min(best, then);
            }
            return best;
        }
    }

    /** A ROW of pairs: what BEARS were asked, and what they TOLD. */
    private static final class Looks {
        // Bit d of the n-th: whether THING n is in the set d of THINGS.
        private static final long[] SETS_WITH = {
            0xAAAAAAAAAAAAAAAAL, 0xCCCCCCCCCCCCCCCCL, 0xF0F0F0F0F0F0F0F0L,
            0xFF00FF00FF00FF00L, 0xFFFF0000FFFF0000L, 0xFFFFFFFF00000000L
        };
        private static final int TOLD_NOTHING = 2;

        private int pairs = 0;
        private final Cells whom = new Cells(MOST_PAIRS);
        private final Cells thing = new Cells(MOST_PAIRS);
        private final Cells told = new Cells(MOST_PAIRS);

        private static long setsWith(int thing) {
            return thing >= 0 && thing < SETS_WITH.length ? SETS_WITH[thing] : 0;
        }

        /** Takes a ROW's pairs: 0, or the FINDING. */
        private int readFrom(Shelf rows, int r, int bears) {
            if (!rows.has(r)) return NOTHING;
            int size = rows.sizeOf(r);
            if (size % 2 != 0 || size > 2 * MOST_PAIRS) return SIZE;
            pairs = size / 2;
            for (int p = 0; p < pairs; p++) {
                int asking = rows.get(r, 2 * p);
                int answer = rows.get(r, 2 * p + 1);
                if (asking < 0 || asking / 8 >= bears || asking % 8 >= THING_COUNT) return UNLIKE;
                if (answer < 0 || answer > TOLD_NOTHING) return UNLIKE;
                whom.set(p, asking / 8);
                thing.set(p, asking % 8);
                told.set(p, answer == TOLD_NOTHING ? NONE : answer);
            }
            return 0;
        }

        private boolean fits(Court court, int p, int asKind, int asDone) {
            return court.answerIf(whom.get(p), asKind, thing.get(p), asDone) == told.get(p);
        }

        /** The sets of THINGS (bit d: the set d) by which all would have been TOLD so. */
        private long fittingSets(Court court) {
            long sets = -1;
            for (int p = 0; p < pairs; p++) {
                int kind = court.kind.get(whom.get(p));
                long with = setsWith(thing.get(p));
                if (!fits(court, p, kind, ALL_THINGS)) sets &= ~with;
                if (!fits(court, p, kind, 0)) sets &= with;
            }
            return sets;
        }

        private boolean fitKind(Court court, int i, int asKind) {
            for (int p = 0; p < pairs; p++) {
                if (whom.get(p) == i && !fits(court, p, asKind, court.done)) return false;
            }
            return true;
        }

        private int whoSpoke() {
            int who = 0;
            for (int p = 0; p < pairs; p++) {
                if (told.get(p) != NONE) who |= 1 << whom.get(p);
            }
            return who;
        }

        /** Those who once TOLD nothing of what they SEE. */
        private int whoKeptBack(Court court) {
            int who = 0;
            for (int p = 0; p < pairs; p++) {
                int i = whom.get(p);
                int seen = court.seenBy(i, court.kind.get(i), court.wear.get(i));
                if (told.get(p) == NONE && isIn(seen, thing.get(p))) who |= 1 << i;
            }
            return who;
        }
    }
}
