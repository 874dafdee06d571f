import java.math.BigInteger;
import java.util.ArrayList;
import java.util.List;

/**
 * The document once more, in the slowest and plainest way, for ModelTest to
 * compare with: every call's answer is found by trying all there is.
 */
final class Model {
    static final int BAD = -1, FULL = -2, FINDING = -3, STATE = -4, NONE = -9;

    static final class Bear implements Cloneable {
        char letter;
        int eyes, wear, view;
        boolean wall;

        Bear like() {
            Bear b = new Bear();
            b.letter = letter;
            b.eyes = eyes;
            b.wear = wear;
            b.view = view;
            b.wall = wall;
            return b;
        }

        boolean isLoved() {
            return letter == 'l' || letter == 'g';
        }

        boolean isMothy() {
            return letter == 'm' || letter == 'r';
        }

        boolean views(int thing) {
            return thing >= 0 && (view & (1 << thing)) != 0;
        }

        boolean sees(int thing) {
            boolean inView = views(thing) || letter == 'p' && views(thing - 1);
            if (!inView) return false;
            if (wear >= 9) return false;
            if (letter == 'r' && wear >= 3) return false;
            if (isLoved()) return true;
            return eyes == 2 || eyes == 1 && thing % 2 == 0;
        }

        int tells(int thing, int done) {
            if (wall || !sees(thing)) return NONE;
            int truth = (done & (1 << thing)) != 0 ? 1 : 0;
            if (letter == 'g') return 1;
            if (isMothy() && wear >= 5) return 1 - truth;
            return truth;
        }
    }

    /** A COURT as it is between two DEEDS. */
    static final class Court {
        int done = 0;
        List<Bear> bears = new ArrayList<>();

        Court like() {
            Court c = new Court();
            c.done = done;
            for (Bear b : bears) c.bears.add(b.like());
            return c;
        }

        int more(int set, int thing) {
            int sum = 0;
            for (int i = 0; i < bears.size(); i++) {
                if ((set & (1 << i)) == 0) continue;
                int t = bears.get(i).tells(thing, done);
                if (t == 1) sum++;
                if (t == 0) sum--;
            }
            return sum;
        }

        int shown(int set) {
            int things = 0;
            for (int thing = 0; thing < 6; thing++) if (more(set, thing) > 0) things |= 1 << thing;
            return things;
        }

        int all() {
            return (1 << bears.size()) - 1;
        }
    }

    static final String LETTERS = "blpmgr";

    Integer[][] rows = new Integer[6][];
    Integer[][] texts = new Integer[4][];
    // History: the COURT before DEED 0, before DEED 1, ..., now.
    List<Court> now = new ArrayList<>(List.of(new Court()));
    List<List<Court>> kept = new ArrayList<>();
    int asked = 0, finding = 0;
    int[] findings = new int[6];
    long upper = 0, lower = 1;

    Model() {
        for (int k = 0; k < 3; k++) kept.add(null);
    }

    Court c() {
        return now.get(now.size() - 1);
    }

    int n() {
        return c().bears.size();
    }

    int find(int f) {
        finding = f;
        findings[f]++;
        return FINDING;
    }

    boolean out(int v, int size) {
        return v < 0 || v >= size;
    }

    int row(int r, int n) {
        if (out(r, 6) || n > 40) return BAD;
        if (n < 0) return find(5);
        rows[r] = new Integer[n];
        for (int i = 0; i < n; i++) rows[r][i] = 0;
        return n;
    }

    int lay(int r, int i, int v) {
        int a = at(r, i);
        if (a == 1) rows[r][i] = v;
        return a;
    }

    int at(int r, int i) {
        if (out(r, 6)) return BAD;
        if (rows[r] == null) return find(1);
        if (out(i, rows[r].length)) return find(2);
        asked = rows[r][i];
        return 1;
    }

    int tear(int r) {
        if (out(r, 6)) return BAD;
        if (rows[r] == null) return find(1);
        rows[r] = null;
        return 1;
    }

    int copy(int r, int i, int to, int j, int n) {
        if (out(r, 6) || out(to, 6)) return BAD;
        if (n < 0) return find(5);
        if (rows[r] == null || rows[to] == null) return find(1);
        if (i < 0 || j < 0) return find(2);
        if (i > rows[r].length || n > rows[r].length - i) return find(2);
        if (j > rows[to].length || n > rows[to].length - j) return find(2);
        List<Integer> taken = new ArrayList<>();
        for (int d = 0; d < n; d++) taken.add(rows[r][i + d]);
        for (int d = 0; d < n; d++) rows[to][j + d] = taken.get(d);
        return 1;
    }

    int mean(int r) {
        if (out(r, 6)) return BAD;
        if (rows[r] == null) return find(1);
        if (rows[r].length == 0) return find(4);
        BigInteger sum = BigInteger.ZERO;
        for (int v : rows[r]) sum = sum.add(BigInteger.valueOf(v));
        asked = sum.divide(BigInteger.valueOf(rows[r].length)).intValueExact();
        return 1;
    }

    int text(int t, int n) {
        if (out(t, 4) || n > 60) return BAD;
        if (n < 0) return find(5);
        texts[t] = new Integer[n];
        for (int i = 0; i < n; i++) texts[t][i] = 32;
        return n;
    }

    int put(int t, int i, int v) {
        if (out(t, 4)) return BAD;
        if (texts[t] == null) return find(1);
        if (out(i, texts[t].length)) return find(2);
        int was = texts[t][i];
        int low = v & 255;
        texts[t][i] = low > 127 ? low - 256 : low;
        return was + 1000;
    }

    int fault(int t) {
        if (out(t, 4)) return BAD;
        if (texts[t] == null) return find(1);
        return read(t, new Court());
    }

    /** By a table of what may come at each step of an item. */
    int read(int t, Court into) {
        Integer[] s = texts[t];
        int step = 0; // 0: between items; else how many signs of the item are read
        boolean head = true; // k and its figures are not yet read
        int[] sign = new int[5];
        for (int p = 0; p < s.length; p++) {
            int b = s[p];
            if (step == 0 && b == 32) continue;
            boolean digit = b >= '0' && b <= '9';
            boolean ok;
            if (step == 0) ok = head ? b == 'k' : b > 0 && LETTERS.indexOf(b) >= 0 && into.bears.size() < 6;
            else if (!head && step == 1) ok = b >= '0' && b <= '2';
            else ok = digit;
            if (!ok) return p;
            sign[step] = b - (step == 0 ? 0 : '0');
            step++;
            if (step == (head ? 3 : 5)) {
                int two = sign[step - 2] * 10 + sign[step - 1];
                if (two > 63) return p - 1;
                if (head) into.done = two;
                else {
                    Bear bear = new Bear();
                    bear.letter = (char) sign[0];
                    bear.eyes = sign[1];
                    bear.wear = sign[2];
                    bear.view = two;
                    into.bears.add(bear);
                }
                head = false;
                step = 0;
            }
        }
        return step != 0 || into.bears.isEmpty() ? s.length : NONE;
    }

    int court(int t) {
        int f = fault(t);
        if (f == BAD || f == FINDING) return f;
        if (f != NONE) return STATE;
        Court fresh = new Court();
        read(t, fresh);
        now = new ArrayList<>(List.of(fresh));
        for (int k = 0; k < 3; k++) kept.set(k, null);
        return n();
    }

    int ofBear(int i, int what) {
        Bear b = c().bears.get(i);
        if (what == 0) return LETTERS.indexOf(b.letter);
        if (what == 1) return b.eyes;
        if (what == 2) return b.wear;
        if (what == 3) return b.view;
        if (what == 4) return b.wall ? 1 : 0;
        int bits = 0;
        for (int thing = 0; thing < 6; thing++) if (b.tells(thing, c().done) != NONE) bits += 1 << thing;
        return bits;
    }

    int bear(int i, int what) {
        if (out(i, n()) || out(what, 6)) return BAD;
        asked = ofBear(i, what);
        return 1;
    }

    int mark(int i, int kind) {
        if (out(i, n()) || kind < 1 || kind > 5) return BAD;
        Bear b = c().bears.get(i);
        String kindred = new String[] {"", "lg", "p", "mr", "g", "r"}[kind];
        if (kindred.indexOf(b.letter) < 0) return find(3);
        int sum = 0;
        for (int thing = 0; thing < 6; thing++) {
            if (kind == 1 && b.views(thing)) sum++;
            if (kind == 2 && b.sees(thing) && !b.views(thing)) sum++;
            if (kind == 4 && b.sees(thing) && (c().done & (1 << thing)) == 0) sum++;
        }
        if (kind == 3) for (int w = b.wear; w < 5; w++) sum++;
        if (kind == 5) for (int w = b.wear; w < 3; w++) sum++;
        return sum;
    }

    int deed(int i, char what) {
        if (out(i, n())) return BAD;
        if (!canBe(c().bears.get(i), what)) return STATE;
        if (now.size() > 40) return FULL;
        Court then = c().like();
        now.add(then);
        return apply(then.bears.get(i), what);
    }

    boolean canBe(Bear b, char what) {
        if (what == 'p') return b.wear < 9;
        if (what == 'm') return b.wear > 0;
        if (what == 'e') return b.eyes > 0;
        return true;
    }

    int apply(Bear b, char what) {
        if (what == 'p') return ++b.wear;
        if (what == 'm') return --b.wear;
        if (what == 'e') return --b.eyes;
        b.wall = !b.wall;
        return b.wall ? 1 : 0;
    }

    int press(int i) {
        return deed(i, 'p');
    }

    int mend(int i) {
        return deed(i, 'm');
    }

    int eye(int i) {
        return deed(i, 'e');
    }

    int turn(int i) {
        return deed(i, 't');
    }

    int undo(int n) {
        if (n < 0 || n > now.size() - 1) return BAD;
        int undone = 0;
        while (now.size() - 1 > n) {
            now.remove(now.size() - 1);
            undone++;
        }
        return undone;
    }

    List<Court> likeAll(List<Court> all) {
        List<Court> like = new ArrayList<>();
        for (Court c : all) like.add(c.like());
        return like;
    }

    int keep(int k) {
        if (out(k, 3)) return BAD;
        if (n() == 0) return STATE;
        kept.set(k, likeAll(now));
        return now.size() - 1;
    }

    int on(int k) {
        if (out(k, 3)) return BAD;
        if (kept.get(k) == null) return find(1);
        now = likeAll(kept.get(k));
        return now.size() - 1;
    }

    int tells(int i, int thing) {
        if (out(i, n()) || out(thing, 6)) return BAD;
        return c().bears.get(i).tells(thing, c().done);
    }

    int shown(int set) {
        if (out(set, 1 << n())) return BAD;
        if (n() == 0) return STATE;
        int even = 0;
        for (int thing = 0; thing < 6; thing++) {
            boolean some = false;
            for (int i = 0; i < n(); i++) {
                if ((set & (1 << i)) != 0 && tells(i, thing) != NONE) some = true;
            }
            if (some && c().more(set, thing) == 0) even += 1 << thing;
        }
        asked = even;
        return c().shown(set);
    }

    int call(int thing) {
        if (out(thing, 6)) return BAD;
        if (n() == 0) return STATE;
        for (int size = 1; size <= n(); size++) {
            for (int others = 0; others < 6; others++) {
                for (int set = 0; set < 1 << n(); set++) {
                    int shown = c().shown(set);
                    if (Integer.bitCount(set) != size || (shown & (1 << thing)) == 0) continue;
                    if (Integer.bitCount(shown) != others + 1) continue;
                    asked = set;
                    return size;
                }
            }
        }
        return NONE;
    }

    int shake(int thing, int set, int r) {
        if (out(thing, 6) || out(set, 1 << n()) || out(r, 6)) return BAD;
        if (n() == 0) return STATE;
        for (int presses = 0; presses <= 4; presses++) {
            int rowsOf = (int) Math.pow(n(), presses);
            for (int code = 0; code < rowsOf; code++) {
                Integer[] who = new Integer[presses];
                int rest = code;
                for (int d = presses - 1; d >= 0; d--) {
                    who[d] = rest % n();
                    rest /= n();
                }
                if (!shakes(thing, set, who)) continue;
                rows[r] = who;
                return presses;
            }
        }
        return NONE;
    }

    boolean shakes(int thing, int set, Integer[] who) {
        Court tried = c().like();
        for (int d = 0; d < who.length; d++) {
            if (d > 0 && who[d] < who[d - 1]) return false;
            if ((set & (1 << who[d])) == 0) return false;
            Bear b = tried.bears.get(who[d]);
            if (b.wear >= 9) return false;
            b.wear++;
        }
        return (tried.shown(set) & (1 << thing)) == 0;
    }

    int cover(int things) {
        if (out(things, 64)) return BAD;
        if (n() == 0) return STATE;
        for (int size = 0; size <= n(); size++) {
            for (int set = 0; set < 1 << n(); set++) {
                if (Integer.bitCount(set) != size) continue;
                int told = 0;
                for (int i = 0; i < n(); i++) if ((set & (1 << i)) != 0) told |= ofBear(i, 5);
                if ((things & ~told) != 0) continue;
                asked = set;
                return size;
            }
        }
        return NONE;
    }

    int rivals(int i, int j) {
        if (out(i, n()) || out(j, n()) || i == j) return BAD;
        int bits = 0;
        for (int thing = 0; thing < 6; thing++) {
            if (tells(i, thing) != NONE && tells(j, thing) != NONE && tells(i, thing) != tells(j, thing)) {
                bits += 1 << thing;
            }
        }
        return bits;
    }

    int apart() {
        if (n() == 0) return STATE;
        for (int size = 0; size <= n(); size++) {
            for (int set = 0; set < 1 << n(); set++) {
                if (Integer.bitCount(set) != size) continue;
                boolean clash = false;
                for (int i = 0; i < n(); i++) {
                    for (int j = 0; j < i; j++) {
                        boolean both = (set & (1 << i)) == 0 && (set & (1 << j)) == 0;
                        if (both && rivals(i, j) != 0) clash = true;
                    }
                }
                if (clash) continue;
                asked = set;
                return size;
            }
        }
        return NONE;
    }

    int looks(int r) {
        if (rows[r] == null) return find(1);
        if (rows[r].length % 2 == 1 || rows[r].length > 16) return find(5);
        for (int p = 0; p < rows[r].length; p += 2) {
            if (out(rows[r][p], 8 * n()) || rows[r][p] % 8 > 5 || out(rows[r][p + 1], 3)) return find(3);
        }
        return 0;
    }

    int looksOfCourt(int r) {
        if (out(r, 6)) return BAD;
        if (n() == 0) return STATE;
        return looks(r);
    }

    boolean fits(Bear b, int done, int r, int p) {
        int told = rows[r][p + 1] == 2 ? NONE : rows[r][p + 1];
        return b.tells(rows[r][p] % 8, done) == told;
    }

    List<Integer> sets(int r) {
        List<Integer> sets = new ArrayList<>();
        for (int done = 0; done < 64; done++) {
            boolean all = true;
            for (int p = 0; p < rows[r].length; p += 2) {
                if (!fits(c().bears.get(rows[r][p] / 8), done, r, p)) all = false;
            }
            if (all) sets.add(done);
        }
        return sets;
    }

    int truths(int r) {
        int no = looksOfCourt(r);
        if (no != 0) return no;
        List<Integer> sets = sets(r);
        asked = sets.isEmpty() ? NONE : sets.get(0);
        upper = sets.size();
        lower = 1;
        return 1;
    }

    int sure(int r) {
        int no = looksOfCourt(r);
        if (no != 0) return no;
        int each = 63;
        int none = 63;
        for (int set : sets(r)) {
            each &= set;
            none &= ~set;
        }
        asked = none;
        return each;
    }

    int next(int r) {
        int no = looksOfCourt(r);
        if (no != 0) return no;
        List<Integer> sets = sets(r);
        if (sets.isEmpty()) return NONE;
        int best = -1;
        int least = 65;
        for (int i = 0; i < n(); i++) {
            for (int thing = 0; thing < 6; thing++) {
                int greatest = 0;
                for (int told : new int[] {1, 0, NONE}) {
                    int part = 0;
                    for (int set : sets) if (c().bears.get(i).tells(thing, set) == told) part++;
                    greatest = Math.max(greatest, part);
                }
                if (greatest >= least) continue;
                least = greatest;
                best = 8 * i + thing;
            }
        }
        asked = least;
        return best;
    }

    int kinds(int i, int r) {
        if (out(i, n()) || out(r, 6)) return BAD;
        int no = looks(r);
        if (no != 0) return no;
        int bits = 0;
        for (int kind = 0; kind < 6; kind++) {
            Bear b = c().bears.get(i).like();
            b.letter = LETTERS.charAt(kind);
            boolean all = true;
            for (int p = 0; p < rows[r].length; p += 2) {
                if (rows[r][p] / 8 == i && !fits(b, c().done, r, p)) all = false;
            }
            if (all) bits += 1 << kind;
        }
        return bits;
    }

    int walls(int r) {
        int no = looksOfCourt(r);
        if (no != 0) return no;
        int must = 0;
        int cannot = 0;
        for (int i = 0; i < n(); i++) {
            Bear b = c().bears.get(i).like();
            b.wall = false;
            boolean spoke = false;
            boolean wouldHave = false;
            for (int p = 0; p < rows[r].length; p += 2) {
                if (rows[r][p] / 8 != i) continue;
                if (rows[r][p + 1] != 2) spoke = true;
                if (b.tells(rows[r][p] % 8, c().done) != NONE) wouldHave = true;
            }
            if (spoke) cannot += 1 << i;
            else if (wouldHave) must += 1 << i;
        }
        asked = cannot;
        return must;
    }

    int duel(int thing, int n) {
        if (out(thing, 6) || out(n, 3)) return BAD;
        if (n() == 0) return STATE;
        asked = play(c(), thing, 0, 2 * n);
        return 1;
    }

    int play(Court at, int thing, int turn, int turns) {
        if (turn == turns) return at.more(at.all(), thing);
        boolean first = turn % 2 == 0;
        List<Integer> ends = new ArrayList<>(List.of(play(at, thing, turn + 1, turns)));
        for (int i = 0; i < at.bears.size(); i++) {
            Court then = at.like();
            Bear b = then.bears.get(i);
            if (!canBe(b, first ? 'm' : 'p')) continue;
            apply(b, first ? 'm' : 'p');
            ends.add(play(then, thing, turn + 1, turns));
        }
        int best = ends.get(0);
        for (int end : ends) best = first ? Math.max(best, end) : Math.min(best, end);
        return best;
    }

    void part(BigInteger up, BigInteger down) {
        BigInteger g = up.gcd(down);
        upper = up.divide(g).longValueExact();
        lower = down.divide(g).longValueExact();
    }

    /** Goes through all 12^n ways in which twelve-sided dice can silence BEARS. */
    BigInteger ways(int silent, int p) {
        BigInteger ways = BigInteger.ONE;
        for (int i = 0; i < n(); i++) {
            ways = ways.multiply(BigInteger.valueOf((silent & (1 << i)) != 0 ? p : 12 - p));
        }
        return ways;
    }

    int odds(int thing, int p) {
        if (out(thing, 6) || out(p, 13)) return BAD;
        if (n() == 0) return STATE;
        BigInteger up = BigInteger.ZERO;
        for (int silent = 0; silent < 1 << n(); silent++) {
            if (c().more(c().all() & ~silent, thing) > 0) up = up.add(ways(silent, p));
        }
        part(up, BigInteger.valueOf(12).pow(n()));
        return 1;
    }

    int mid(int p) {
        if (out(p, 13)) return BAD;
        if (n() == 0) return STATE;
        BigInteger up = BigInteger.ZERO;
        for (int silent = 0; silent < 1 << n(); silent++) {
            for (int thing = 0; thing < 6; thing++) {
                if (c().more(c().all() & ~silent, thing) > 0) up = up.add(ways(silent, p));
            }
        }
        part(up, BigInteger.valueOf(12).pow(n()));
        return 1;
    }

    int lots(int n, int seed) {
        if (n < 1 || n > 20 || seed < 1 || seed > 2147483646) return BAD;
        if (n() == 0) return STATE;
        if (now.size() - 1 + n > 40) return FULL;
        BigInteger x = BigInteger.valueOf(seed);
        for (int d = 0; d < n; d++) {
            x = x.multiply(BigInteger.valueOf(48271)).mod(BigInteger.valueOf(2147483647));
            int number = x.intValueExact();
            char what = "ppppmmet".charAt(number / 8 % 8);
            Court then = c().like();
            Bear b = then.bears.get(number % n());
            if (canBe(b, what)) apply(b, what);
            now.add(then);
        }
        return Integer.bitCount(c().shown(c().all()));
    }

    int count(int what) {
        int sum = 0;
        for (int i = 0; i < n(); i++) {
            Bear b = c().bears.get(i);
            if (what == 3 && b.wall) sum += 1 << i;
            if (what == 5) sum += b.wear;
            if (what == 6) sum += b.eyes;
            if (what == 7 && b.isLoved()) sum++;
            if (what == 8 && b.isMothy()) sum++;
        }
        if (what == 0) return n();
        if (what == 1) return c().done;
        if (what == 2) return now.size() - 1;
        if (what == 4) return c().shown(c().all());
        if (what == 9) for (Integer[] row : rows) if (row != null) sum++;
        if (what == 10) for (Integer[] text : texts) if (text != null) sum++;
        if (what == 11) for (List<Court> k : kept) if (k != null) sum++;
        return what < 0 || what > 11 ? BAD : sum;
    }

    int findings(int f) {
        return f < 1 || f > 5 ? BAD : findings[f];
    }

    long digest() {
        List<Integer> all = new ArrayList<>();
        for (int what = 0; what < 12; what++) all.add(count(what));
        for (int i = 0; i < n(); i++) {
            for (int what = 0; what < 6; what++) all.add(ofBear(i, what));
            for (int thing = 0; thing < 6; thing++) all.add(tells(i, thing));
        }
        for (List<Court> k : kept) all.add(k == null ? -1 : k.size() - 1);
        addRows(all, rows);
        addRows(all, texts);
        long h = 17;
        for (int v : all) h = 31 * h + v;
        return h;
    }

    void addRows(List<Integer> all, Integer[][] some) {
        for (Integer[] row : some) {
            all.add(row == null ? -1 : row.length);
            if (row != null) all.addAll(List.of(row));
        }
    }
}
