import java.util.function.IntSupplier;

/**
 * Calls on an edge that the document names: what they answer, and, where they
 * are refused (or answer NONE), that all that is told stays.
 */
final class Edge {
    static final int BAD = -1, FULL = -2, FINDING = -3, STATE = -4, NONE = -9;
    static final int NOTHING = 1, BEYOND = 2, UNLIKE = 3, NOUGHT = 4, SIZE = 5;
    static final int MAX = Integer.MAX_VALUE, MIN = Integer.MIN_VALUE;
    static final String ALL_KINDS = "k21 b2015l0060p1021m2631g1763r2015";

    private Edge() {
    }

    /** What a refusal must let stay; finding() and findings() come last. */
    private static long[] told(BearWitness x) {
        return new long[] {
            x.digest(), x.asked(), x.upper(), x.lower(), x.finding(),
            x.findings(1), x.findings(2), x.findings(3), x.findings(4), x.findings(5)
        };
    }

    private static final String[] NAME = {
        "digest()", "asked()", "upper()", "lower()", "finding()",
        "findings(1)", "findings(2)", "findings(3)", "findings(4)", "findings(5)"
    };

    private static void stays(String call, long[] then, long[] before) {
        for (int d = 0; d < then.length; d++) Due.is(call + ": " + NAME[d] + " then", then[d], before[d]);
    }

    /** Refused, but by no FINDING (or NONE): nothing at all is other then. */
    static void refused(String call, BearWitness x, IntSupplier does, int want) {
        long[] before = told(x);
        Due.is(call, does.getAsInt(), want);
        stays(call, told(x), before);
    }

    static void bad(String call, BearWitness x, IntSupplier does) {
        refused(call + " BAD", x, does, BAD);
    }

    /** Refused by a FINDING: it is told, and counted; nothing else is other then. */
    static void finds(String call, BearWitness x, IntSupplier does, int f) {
        long[] before = told(x);
        before[4] = f;
        before[4 + f]++;
        Due.is(call, does.getAsInt(), FINDING);
        stays(call, told(x), before);
    }

    /** Answered, and more is told by asked(). */
    static void tells(String call, BearWitness x, IntSupplier does, int want, int told) {
        Due.is(call, does.getAsInt(), want);
        Due.is(call + ": asked()", x.asked(), told);
    }

    /** Answered, and a part (or a number of sets) is told by upper(), lower(). */
    static void tellsPart(String call, BearWitness x, IntSupplier does, long up, long down) {
        Due.is(call, does.getAsInt(), 1);
        Due.is(call + ": upper()", x.upper(), up);
        Due.is(call + ": lower()", x.lower(), down);
    }

    /** A ROW's ints are these, and no more. */
    static void rowIs(String call, BearWitness x, int r, int... v) {
        for (int i = 0; i < v.length; i++) {
            Due.is(call + ": at(" + r + ", " + i + ")", x.at(r, i), 1);
            Due.is(call + ": place " + i, x.asked(), v[i]);
        }
        Due.is(call + ": at(" + r + ", " + v.length + ")", x.at(r, v.length), FINDING);
        Due.is(call + ": its size", x.finding(), BEYOND);
    }

    /** A TEXT's bytes are these, and no more; they stay. */
    static void textIs(String call, BearWitness x, int t, String s) {
        for (int i = 0; i < s.length(); i++) {
            Due.is(call + ": byte " + i, x.put(t, i, s.charAt(i)), (byte) s.charAt(i) + 1000);
        }
        Due.is(call + ": put(" + t + ", " + s.length() + ", 32)", x.put(t, s.length(), 32), FINDING);
        Due.is(call + ": its size", x.finding(), BEYOND);
    }

    /** All ROWS and all TEXTS are these (null: missing), and there are no BEARS: by promise 43, in one call. */
    static void holds(String call, BearWitness x, int[][] rows, int[][] texts) {
        long h = 17;
        for (int what = 0; what < 12; what++) h = 31 * h + (what == 9 ? there(rows) : what == 10 ? there(texts) : 0);
        for (int k = 0; k < 3; k++) h = 31 * h - 1;
        h = fold(fold(h, rows), texts);
        Due.is(call + ": all ROWS and TEXTS then", x.digest(), h);
    }

    private static int there(int[][] some) {
        int sum = 0;
        for (int[] one : some) sum += one == null ? 0 : 1;
        return sum;
    }

    private static long fold(long h, int[][] some) {
        for (int[] one : some) {
            h = 31 * h + (one == null ? -1 : one.length);
            if (one == null) continue;
            for (int v : one) h = 31 * h + v;
        }
        return h;
    }

    /** Six ROWS of forty ints, none of them 0, and what they are. */
    static BearWitness fullRows(int[][] rows) {
        BearWitness x = new BearWitness();
        for (int r = 0; r < 6; r++) {
            rows[r] = new int[40];
            for (int i = 0; i < 40; i++) rows[r][i] = 1000 * (r + 1) + i;
            Due.row(x, r, rows[r]);
        }
        return x;
    }

    /** Four TEXTS of sixty bytes, none of them a blank, and what they are. */
    static BearWitness fullTexts(int[][] texts) {
        BearWitness x = new BearWitness();
        for (int t = 0; t < 4; t++) {
            texts[t] = new int[60];
            x.text(t, 60);
            for (int i = 0; i < 60; i++) {
                texts[t][i] = 50 + 17 * t - i;
                if (texts[t][i] == 32) texts[t][i] = -1;
                x.put(t, i, texts[t][i]);
            }
        }
        return x;
    }

    /** What bear() tells of one BEAR. */
    static int ofBear(BearWitness x, int i, int what) {
        Due.is("bear(" + i + ", " + what + ")", x.bear(i, what), 1);
        return x.asked();
    }
}
