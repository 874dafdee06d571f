/** Promises 21 to 27: what is told, shown, whom to call. */
public final class TellingTest {
    private static final String ALL_KINDS = "k21 b2015l0060p1021m2631g1763r2015";

    public static void main(String[] args) {
        tellsByKind();
        tellsByWearAndEyes();
        shown();
        call();
        shake();
        shakeRefused();
        cover();
        rivals();
        apart();
        Due.end("TellingTest");
    }

    private static void tellsAll(String why, BearWitness x, int i, int... v) {
        for (int thing = 0; thing < 6; thing++) {
            int want = v[thing] == 2 ? BearWitness.NONE : v[thing];
            Due.is("21 " + why + ": tells(" + i + ", " + thing + ")", x.tells(i, thing), want);
        }
    }

    private static void tellsByKind() {
        BearWitness x = Due.court(ALL_KINDS);
        tellsAll("BEAR", x, 0, 1, 0, 1, 0, 2, 2);
        tellsAll("LOVED, no EYES", x, 1, 2, 2, 1, 0, 1, 0);
        tellsAll("PANDA, 1 EYE", x, 2, 1, 2, 1, 2, 1, 2);
        tellsAll("MOTHY at 6", x, 3, 0, 1, 0, 1, 0, 2);
        tellsAll("ROYAL", x, 4, 1, 1, 1, 1, 1, 1);
        tellsAll("RICH at 0", x, 5, 1, 0, 1, 0, 2, 2);
        Due.is("21 tells(6, 0)", x.tells(6, 0), BearWitness.BAD);
        Due.is("21 tells(-1, 0)", x.tells(-1, 0), BearWitness.BAD);
        Due.is("21 tells(0, 6)", x.tells(0, 6), BearWitness.BAD);
        Due.is("21 tells(0, -1)", x.tells(0, -1), BearWitness.BAD);
        Due.is("21 no BEARS", new BearWitness().tells(0, 0), BearWitness.BAD);
    }

    private static void tellsByWearAndEyes() {
        BearWitness x = Due.court("k42 p2021 p0021 m2463 m2563 m2863 r2263");
        tellsAll("PANDA, 2 EYES", x, 0, 0, 1, 0, 1, 0, 1);
        tellsAll("PANDA, no EYES", x, 1, 2, 2, 2, 2, 2, 2);
        tellsAll("MOTHY at 4", x, 2, 0, 1, 0, 1, 0, 1);
        tellsAll("MOTHY at 5", x, 3, 1, 0, 1, 0, 1, 0);
        tellsAll("MOTHY at 8", x, 4, 1, 0, 1, 0, 1, 0);
        x.press(4);
        tellsAll("MOTHY at 9", x, 4, 2, 2, 2, 2, 2, 2);
        tellsAll("RICH at 2", x, 5, 0, 1, 0, 1, 0, 1);
        x.press(5);
        tellsAll("RICH at 3", x, 5, 2, 2, 2, 2, 2, 2);
        x = Due.court("k42 l0863 l0963 g0863 g0963 b1863 p2032");
        tellsAll("LOVED at 8", x, 0, 0, 1, 0, 1, 0, 1);
        tellsAll("LOVED at 9", x, 1, 2, 2, 2, 2, 2, 2);
        tellsAll("ROYAL at 8", x, 2, 1, 1, 1, 1, 1, 1);
        tellsAll("ROYAL at 9", x, 3, 2, 2, 2, 2, 2, 2);
        tellsAll("BEAR, 1 EYE, at 8", x, 4, 0, 2, 0, 2, 0, 2);
        tellsAll("PANDA, above THING 5 is none", x, 5, 2, 2, 2, 2, 2, 1);
    }

    private static void shown() {
        BearWitness x = Due.court(ALL_KINDS);
        int[][] due = {{0, 0, 0}, {1, 5, 0}, {8, 10, 0}, {9, 0, 15}, {16, 63, 0}, {24, 42, 21}, {63, 21, 34}};
        for (int[] d : due) {
            Due.is("22 shown(" + d[0] + ")", x.shown(d[0]), d[1]);
            Due.is("22 asked() of shown(" + d[0] + ")", x.asked(), d[2]);
        }
        Due.is("22 shown(64)", x.shown(64), BearWitness.BAD);
        Due.is("22 shown(-1)", x.shown(-1), BearWitness.BAD);
        Due.is("22 asked() stays", x.asked(), 34);
        x = new BearWitness();
        Due.is("22 no BEARS", x.shown(0), BearWitness.STATE);
        Due.is("22 other BEARS, BAD ahead", x.shown(1), BearWitness.BAD);
    }

    private static void callIs(BearWitness x, int thing, int want, int set) {
        Due.is("23 call(" + thing + ")", x.call(thing), want);
        Due.is("23 asked() of call(" + thing + ")", x.asked(), set);
    }

    private static void call() {
        // Fewest others, not the least set: BEAR 1 shows but THING 0.
        BearWitness x = Due.court("k03 b2003 b2001 b2001");
        callIs(x, 0, 1, 2);
        callIs(x, 1, 1, 1);
        // Fewest BEARS come ahead of fewest others.
        x = Due.court("k07 l2007 m2806 l2001 m2801");
        callIs(x, 0, 1, 4);
        callIs(x, 1, 1, 1);
        callIs(Due.court("k01 b2001"), 0, 1, 1);
        Due.is("23 call(5): it can't be", x.call(5), BearWitness.NONE);
        Due.is("23 asked() stays", x.asked(), 1);
        Due.is("23 call(6)", x.call(6), BearWitness.BAD);
        Due.is("23 call(-1)", x.call(-1), BearWitness.BAD);
        x.turn(0);
        Due.is("23 none SHOWS it, with its face to the WALL", x.call(1), BearWitness.NONE);
        x = new BearWitness();
        Due.is("23 no BEARS", x.call(0), BearWitness.STATE);
        Due.is("23 no BEARS, BAD ahead", x.call(6), BearWitness.BAD);
    }

    private static void shakeIs(BearWitness x, int thing, int set, int... who) {
        String call = "24 shake(" + thing + ", " + set + ", 3)";
        Due.is(call, x.shake(thing, set, 3), who.length);
        for (int i = 0; i < who.length; i++) {
            x.at(3, i);
            Due.is(call + ", place " + i, x.asked(), who[i]);
        }
        Due.is(call + ", no more places", x.at(3, who.length), BearWitness.FINDING);
        Due.is(call + " is aside", x.count(2), 0);
    }

    private static void shake() {
        BearWitness x = Due.court("k03 b2801 b2601 m2401 r2102 l2501");
        x.row(3, 9);
        shakeIs(x, 0, 0);
        shakeIs(x, 1, 1);
        shakeIs(x, 0, 1, 0);
        shakeIs(x, 0, 2, 1, 1, 1);
        shakeIs(x, 0, 4, 2);
        shakeIs(x, 1, 8, 3, 3);
        shakeIs(x, 0, 16, 4, 4, 4, 4);
        // 1 and 1: a tie is enough, by a MOTHY one that turns round.
        shakeIs(x, 0, 6, 2);
        shakeIs(x, 0, 7, 0, 2);
        Due.is("24 none of four", x.shake(0, 19, 3), BearWitness.NONE);
        Due.is("24 the ROW stays", x.at(3, 1), 1);
        x = Due.court("k01 b2801 b2801 b2801");
        shakeIs(x, 0, 6, 1, 2);
        shakeIs(x, 0, 7, 0, 1, 2);
        // A RICH one takes three from no WEAR at all.
        shakeIs(Due.court("k01 r2001"), 0, 1, 0, 0, 0);
        // At WEAR 9 none can be PRESSED: here no row of presses helps.
        x = Due.court("k01 b2901 b2401");
        Due.is("24 none", x.shake(0, 3, 3), BearWitness.NONE);
        Due.is("24 no ROW comes", x.count(9), 0);
    }

    private static void shakeRefused() {
        BearWitness x = Due.court("k01 b2001 b2001");
        Due.is("24 shake(6, 1, 0)", x.shake(6, 1, 0), BearWitness.BAD);
        Due.is("24 shake(-1, 1, 0)", x.shake(-1, 1, 0), BearWitness.BAD);
        Due.is("24 shake(0, 4, 0)", x.shake(0, 4, 0), BearWitness.BAD);
        Due.is("24 shake(0, -1, 0)", x.shake(0, -1, 0), BearWitness.BAD);
        Due.is("24 shake(0, 1, 6)", x.shake(0, 1, 6), BearWitness.BAD);
        Due.is("24 shake(0, 1, -1)", x.shake(0, 1, -1), BearWitness.BAD);
        x = new BearWitness();
        Due.is("24 no BEARS", x.shake(0, 0, 0), BearWitness.STATE);
        Due.is("24 no BEARS, BAD ahead", x.shake(0, 0, 6), BearWitness.BAD);
        Due.is("24 no ROW comes", x.count(9), 0);
    }

    private static void coverIs(BearWitness x, int things, int want, int set) {
        Due.is("25 cover(" + things + ")", x.cover(things), want);
        Due.is("25 asked() of cover(" + things + ")", x.asked(), set);
    }

    private static void cover() {
        BearWitness x = Due.court("k00 b2001 b2003 b2012 l0012 r2348");
        coverIs(x, 0, 0, 0);
        coverIs(x, 1, 1, 1);
        coverIs(x, 3, 1, 2);
        coverIs(x, 12, 1, 4);
        coverIs(x, 13, 2, 5);
        coverIs(x, 15, 2, 6);
        Due.is("25 cover(16): it can't be", x.cover(16), BearWitness.NONE);
        Due.is("25 asked() stays", x.asked(), 6);
        Due.is("25 cover(64)", x.cover(64), BearWitness.BAD);
        Due.is("25 cover(-1)", x.cover(-1), BearWitness.BAD);
        x.turn(2);
        coverIs(x, 12, 1, 8);
        coverIs(Due.court("k00 b2001 b2002 b2004"), 7, 3, 7);
        x = new BearWitness();
        Due.is("25 no BEARS", x.cover(0), BearWitness.STATE);
        Due.is("25 no BEARS, BAD ahead", x.cover(64), BearWitness.BAD);
    }

    private static void rivals() {
        BearWitness x = Due.court(ALL_KINDS);
        Due.is("26 rivals(0, 3)", x.rivals(0, 3), 15);
        Due.is("26 rivals(3, 0)", x.rivals(3, 0), 15);
        Due.is("26 rivals(0, 5)", x.rivals(0, 5), 0);
        Due.is("26 rivals(1, 4)", x.rivals(1, 4), 40);
        Due.is("26 rivals(2, 4)", x.rivals(2, 4), 0);
        Due.is("26 rivals(1, 1)", x.rivals(1, 1), BearWitness.BAD);
        Due.is("26 rivals(0, 6)", x.rivals(0, 6), BearWitness.BAD);
        Due.is("26 rivals(6, 0)", x.rivals(6, 0), BearWitness.BAD);
        Due.is("26 rivals(-1, 0)", x.rivals(-1, 0), BearWitness.BAD);
        Due.is("26 rivals(0, -1)", x.rivals(0, -1), BearWitness.BAD);
        Due.is("26 no BEARS", new BearWitness().rivals(0, 1), BearWitness.BAD);
        x.turn(3);
        Due.is("26 a face to the WALL", x.rivals(0, 3), 0);
    }

    private static void apart() {
        BearWitness x = Due.court(ALL_KINDS);
        Due.is("27 apart()", x.apart(), 2);
        Due.is("27 asked()", x.asked(), 24);
        x = Due.court("k01 b2001 b2001");
        Due.is("27 no rivals", x.apart(), 0);
        Due.is("27 none left out", x.asked(), 0);
        x = Due.court("k01 b2001 m2501");
        Due.is("27 either", x.apart(), 1);
        Due.is("27 the least", x.asked(), 1);
        x = Due.court("k01 b2001 m2501 b2001");
        Due.is("27 fewest", x.apart(), 1);
        Due.is("27 not the least", x.asked(), 2);
        x = new BearWitness();
        Due.is("27 no BEARS", x.apart(), BearWitness.STATE);
    }
}
