/** Promises 28 to 32: by looks. */
public final class LooksTest {
    private static final String ALL_KINDS = "k21 b2015l0060p1021m2631g1763r2015";
    private static final int BIG = Integer.MAX_VALUE, LOW = Integer.MIN_VALUE;

    public static void main(String[] args) {
        truths();
        sure();
        next();
        kinds();
        walls();
        refused();
        unlike();
        Due.end("LooksTest");
    }

    private static void truthsIs(BearWitness x, long sets, int least) {
        Due.is("28 truths(0)", x.truths(0), 1);
        Due.is("28 upper()", x.upper(), sets);
        Due.is("28 lower()", x.lower(), 1);
        Due.is("28 asked()", x.asked(), least);
    }

    private static void truths() {
        BearWitness x = Due.court(ALL_KINDS);
        x.odds(4, 6);
        x.row(0, 0);
        truthsIs(x, 64, 0);
        Due.row(x, 0, 8 + 5, 1);
        truthsIs(x, 32, 32);
        Due.row(x, 0, 8 + 5, 0);
        truthsIs(x, 32, 0);
        Due.row(x, 0, 24, 1, 25, 0, 26, 1, 27, 0);
        truthsIs(x, 4, 10);
        Due.row(x, 0, 35, 1);
        truthsIs(x, 64, 0);
        Due.row(x, 0, 35, 0);
        truthsIs(x, 0, BearWitness.NONE);
        Due.row(x, 0, 4, 2, 5, 2);
        truthsIs(x, 64, 0);
        Due.row(x, 0, 3, 2);
        truthsIs(x, 0, BearWitness.NONE);
        Due.row(x, 0, 4, 1);
        truthsIs(x, 0, BearWitness.NONE);
        Due.row(x, 0, 0, 1, 1, 1, 2, 1, 3, 1, 12, 1, 13, 1, 16, 1, 4, 2);
        truthsIs(x, 1, 63);
        x.turn(0);
        Due.row(x, 0, 3, 2);
        truthsIs(x, 64, 0);
    }

    private static void sureIs(BearWitness x, int each, int none) {
        Due.is("29 sure(0)", x.sure(0), each);
        Due.is("29 asked()", x.asked(), none);
    }

    private static void sure() {
        BearWitness x = Due.court(ALL_KINDS);
        x.row(0, 0);
        sureIs(x, 0, 0);
        Due.row(x, 0, 0, 1, 1, 0, 13, 1);
        sureIs(x, 33, 2);
        Due.row(x, 0, 24, 1, 25, 0);
        sureIs(x, 2, 1);
        Due.row(x, 0, 0, 1, 24, 1);
        sureIs(x, 63, 63);
    }

    private static void nextIs(BearWitness x, int want, int part) {
        Due.is("30 next(0)", x.next(0), want);
        Due.is("30 asked()", x.asked(), part);
    }

    private static void next() {
        BearWitness x = Due.court(ALL_KINDS);
        x.row(0, 0);
        nextIs(x, 0, 32);
        Due.row(x, 0, 0, 1, 1, 0);
        nextIs(x, 2, 8);
        Due.row(x, 0, 0, 1, 1, 0, 2, 0, 3, 0);
        nextIs(x, 12, 2);
        Due.row(x, 0, 0, 1, 1, 1, 2, 1, 3, 1, 12, 1, 13, 1);
        nextIs(x, 0, 1);
        Due.row(x, 0, 35, 0);
        x.bear(0, 3);
        Due.is("30 no set", x.next(0), BearWitness.NONE);
        Due.is("30 asked() stays", x.asked(), 15);
        x = Due.court("k00 g2063 b2901 b2004");
        x.row(0, 0);
        nextIs(x, 18, 32);
        x.turn(2);
        nextIs(x, 0, 64);
    }

    private static void kinds() {
        BearWitness x = Due.court("k01 b1463 b2563 b2963 b2021");
        x.row(0, 0);
        for (int i = 0; i < 4; i++) Due.is("31 kinds(" + i + ", 0), no pairs", x.kinds(i, 0), 63);
        // BEAR 0, 1 EYE, WEAR 4: only LOVED ones SEE THING 1, ROYAL ones tell 1 of it.
        Due.row(x, 0, 1, 0);
        Due.is("31 of THING 1: 0", x.kinds(0, 0), 2);
        Due.row(x, 0, 1, 1);
        Due.is("31 of THING 1: 1", x.kinds(0, 0), 16);
        Due.row(x, 0, 1, 2);
        Due.is("31 of THING 1: nothing", x.kinds(0, 0), 45);
        Due.row(x, 0, 0, 2);
        Due.is("31 of THING 0: nothing", x.kinds(0, 0), 32);
        Due.row(x, 0, 8, 0);
        Due.is("31 the other way round", x.kinds(1, 0), 8);
        Due.is("31 pairs of others don't count", x.kinds(0, 0), 63);
        Due.row(x, 0, 16, 2);
        Due.is("31 at WEAR 9", x.kinds(2, 0), 63);
        Due.row(x, 0, 16, 1);
        Due.is("31 at WEAR 9, it can be none", x.kinds(2, 0), 0);
        Due.row(x, 0, 25, 0);
        Due.is("31 beyond its VIEW", x.kinds(3, 0), 4);
        Due.row(x, 0, 25, 2, 26, 0);
        Due.is("31 two pairs", x.kinds(3, 0), 43);
        Due.is("31 asked() stays", x.asked(), 0);
        Due.is("31 kinds(4, 0)", x.kinds(4, 0), BearWitness.BAD);
        Due.is("31 kinds(-1, 0)", x.kinds(-1, 0), BearWitness.BAD);
        Due.is("31 kinds(0, 6)", x.kinds(0, 6), BearWitness.BAD);
        Due.is("31 kinds(0, -1)", x.kinds(0, -1), BearWitness.BAD);
    }

    private static void wallsIs(BearWitness x, int must, int cannot) {
        Due.is("32 walls(0)", x.walls(0), must);
        Due.is("32 asked()", x.asked(), cannot);
    }

    private static void walls() {
        BearWitness x = Due.court(ALL_KINDS);
        x.row(0, 0);
        wallsIs(x, 0, 0);
        Due.row(x, 0, 0, 2);
        wallsIs(x, 1, 0);
        Due.row(x, 0, 4, 2);
        wallsIs(x, 0, 0);
        Due.row(x, 0, 4, 2, 0, 2, 9, 2, 34, 2);
        wallsIs(x, 17, 0);
        Due.row(x, 0, 0, 2, 1, 0, 10, 2, 40, 1);
        wallsIs(x, 2, 33);
        Due.row(x, 0, 0, 0, 4, 1);
        wallsIs(x, 0, 1);
        x.turn(0);
        Due.row(x, 0, 0, 2);
        wallsIs(x, 1, 0);
        Due.row(x, 0, 0, 1);
        wallsIs(x, 0, 1);
    }

    /** The four that ask the COURT, and kinds(): each by its number. */
    private static int ask(BearWitness x, int promise, int r) {
        switch (promise) {
            case 28: return x.truths(r);
            case 29: return x.sure(r);
            case 30: return x.next(r);
            case 31: return x.kinds(0, r);
            default: return x.walls(r);
        }
    }

    private static void refused() {
        for (int p = 28; p <= 32; p++) {
            BearWitness x = new BearWitness();
            Due.is(p + " BAD ahead of STATE", ask(x, p, 6), BearWitness.BAD);
            Due.is(p + " no BEARS", ask(x, p, 0), p == 31 ? BearWitness.BAD : BearWitness.STATE);
            x = Due.court(ALL_KINDS);
            x.bear(1, 3);
            x.odds(4, 6);
            Due.is(p + " r 6", ask(x, p, 6), BearWitness.BAD);
            Due.is(p + " r -1", ask(x, p, -1), BearWitness.BAD);
            Due.finds(p + " NOTHING", x, 0, ask(x, p, 0), 1);
            x.row(0, 1);
            x.row(1, 18);
            Due.finds(p + " SIZE: odd", x, 0, ask(x, p, 0), 5);
            Due.finds(p + " SIZE: nine pairs", x, 1, ask(x, p, 1), 5);
            Due.row(x, 2, 99, 1, 0);
            Due.is(p + " lay() told", x.asked(), 0);
            Due.finds(p + " SIZE ahead of UNLIKE", x, 2, ask(x, p, 2), 5);
            Due.is(p + " upper() stays", x.upper(), 11);
            Due.is(p + " asked() stays", x.asked(), 0);
            x.row(3, 16);
            Due.is(p + " eight pairs are none too many", ask(x, p, 3) == BearWitness.FINDING ? 1 : 0, 0);
        }
    }

    private static void unlike() {
        int[][] bad = {{48, 0}, {6, 0}, {7, 0}, {-1, 0}, {LOW, 0}, {BIG, 0}, {0, 3}, {0, -1}, {0, BIG}, {0, LOW}};
        for (int p = 28; p <= 32; p++) {
            BearWitness x = Due.court(ALL_KINDS);
            int before = 0;
            for (int[] pair : bad) {
                Due.row(x, 0, 8, 2, pair[0], pair[1]);
                String call = p + " UNLIKE: " + pair[0] + ", " + pair[1];
                Due.finds(call, x, before++, ask(x, p, 0), 3);
            }
            Due.row(x, 0, 45, 2);
            Due.is(p + " the last BEAR's last THING", ask(x, p, 0) == BearWitness.FINDING ? 1 : 0, 0);
        }
    }
}
