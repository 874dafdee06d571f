/** The edges that promises 23 to 27 name, sentence by sentence. */
public final class EdgeWhomTest {
    private static final int[] NO_THING = {-1, 6, 7, Edge.MIN, Edge.MAX};

    public static void main(String[] args) {
        callFewestFirst();
        callFewestOthers();
        callLeast();
        callNone();
        callRefused();
        shakeNoughtToFour();
        shakeByNoFour();
        shakeFirstRow();
        shakeBelowNine();
        shakeComesToARow();
        shakeLetsOtherRowsStay();
        shakeIsAside();
        shakeRefused();
        coverEdges();
        coverLeast();
        coverNone();
        coverRefused();
        rivalsUnlike();
        rivalsRefused();
        apartEdges();
        apartRefused();
        Due.end("EdgeWhomTest");
    }

    private static void callIs(String s, int thing, int set) {
        BearWitness x = Due.court(s);
        Edge.tells("23 call(" + thing + ") of \"" + s + "\"", x, () -> x.call(thing), 1, set);
    }

    // 23 "The fewest BEARS": ahead of all else, though more BEARS show fewest others.
    private static void callFewestFirst() {
        callIs("k63 b2063 m2562", 0, 1);
        callIs("k63 m2562 b2063", 0, 2);
        callIs("k07 b2007 m2806", 0, 1);
        callIs("k63 b2063 m2562 m2562", 0, 1);
        callIs("k63 b2003 m2502 b2001", 0, 4);
    }

    // 23 "of these sets the one by which fewest other THINGS are SHOWN": others, not the THING itself.
    private static void callFewestOthers() {
        callIs("k63 b2003 b2001", 0, 2);
        callIs("k63 b2003 b2001", 1, 1);
        callIs("k63 b2063 b2031 b2015 b2007 b2003 b2001", 0, 32);
        callIs("k63 b2001 b2003 b2007 b2015 b2031 b2063", 5, 32);
        callIs("k63 b2063 b2062 b2060 b2056 b2048 b2032", 5, 32);
        // Things of which it TELLS 0 are not SHOWN.
        callIs("k01 g0003 b2063", 0, 2);
        callIs("k00 m2563 g0001 g0003", 0, 2);
    }

    // 23 "of like ones the least: that set".
    private static void callLeast() {
        callIs("k63 b2001 b2001", 0, 1);
        callIs("k63 b2003 b2005 b2009", 0, 1);
        callIs("k63 b2002 b2003 b2005 b2009", 0, 2);
        callIs("k01 b2001", 0, 1);
        callIs("k32 b2032 b2032 b2032 b2032 b2032 b2032", 5, 1);
        callIs("k32 b2000 b2000 b2000 b2000 b2000 b2032", 5, 32);
    }

    private static void callIsNone(String s, int thing) {
        BearWitness x = Due.court(s);
        x.shown(1);
        x.bear(0, 3);
        Edge.refused("23 call(" + thing + ") of \"" + s + "\"", x, () -> x.call(thing), Edge.NONE);
    }

    // 23 "NONE: it can't be.": nobody TELLS 1 of it.
    private static void callNone() {
        callIsNone("k62 b2063", 0);
        callIsNone("k63 b2062", 0);
        callIsNone("k63 b2963 l0963", 0);
        callIsNone("k63 b0063", 0);
        callIsNone("k63 b1063", 5);
        callIsNone("k63 m2563 m2863", 3);
        callIsNone("k63 r2363", 3);
        BearWitness x = Due.court("k63 b2063");
        x.turn(0);
        Edge.refused("23 call(0), face to the WALL", x, () -> x.call(0), Edge.NONE);
    }

    // 23 "BAD; STATE: no BEARS."
    private static void callRefused() {
        BearWitness x = Due.court("k63 b2063");
        BearWitness y = new BearWitness();
        x.call(0);
        for (int thing : NO_THING) {
            Edge.bad("23 call(" + thing + ")", x, () -> x.call(thing));
            Edge.bad("23 call(" + thing + "), no BEARS: ahead of STATE", y, () -> y.call(thing));
        }
        Edge.refused("23 call(0), no BEARS", y, () -> y.call(0), Edge.STATE);
        Edge.refused("23 call(5), no BEARS", y, () -> y.call(5), Edge.STATE);
    }

    private static void shakeIs(String s, int thing, int set, int... who) {
        BearWitness x = Due.court(s);
        Due.row(x, 5, 7, 7, 7, 7, 7, 7);
        String call = "24 shake(" + thing + ", " + set + ", 5) of \"" + s + "\"";
        Due.is(call, x.shake(thing, set, 5), who.length);
        Edge.rowIs(call, x, 5, who);
    }

    // 24 "The fewest times (0 .. 4) to PRESS BEARS of a set"
    private static void shakeNoughtToFour() {
        shakeIs("k01 b2001", 0, 0);
        shakeIs("k01 b2001", 1, 1);
        shakeIs("k01 b2001 m2501", 0, 3);
        shakeIs("k01 b2801", 0, 1, 0);
        shakeIs("k01 b2701", 0, 1, 0, 0);
        shakeIs("k01 b2601", 0, 1, 0, 0, 0);
        shakeIs("k01 b2501", 0, 1, 0, 0, 0, 0);
        shakeIs("k01 m2401", 0, 1, 0);
        shakeIs("k01 m2101", 0, 1, 0, 0, 0, 0);
        shakeIs("k00 m2801", 0, 1, 0);
        shakeIs("k00 m2501", 0, 1, 0, 0, 0, 0);
        shakeIs("k01 r2201", 0, 1, 0);
        shakeIs("k01 r2001", 0, 1, 0, 0, 0);
        shakeIs("k00 g0801", 0, 1, 0);
        shakeIs("k32 b2832", 5, 1, 0);
    }

    private static void shakeIsNone(String s, int thing, int set) {
        BearWitness x = Due.court(s);
        Due.row(x, 0, 4, 5);
        String call = "24 shake(" + thing + ", " + set + ", ..) of \"" + s + "\"";
        x.bear(0, 3);
        Edge.refused(call, x, () -> x.shake(thing, set, 0), Edge.NONE);
        Edge.refused(call, x, () -> x.shake(thing, set, 1), Edge.NONE);
        Edge.rowIs(call + ": the ROW stays", x, 0, 4, 5);
        Edge.finds(call + ": no ROW comes", x, () -> x.at(1, 0), Edge.NOTHING);
    }

    // 24 "NONE: by no four."; ANSWERS: "a ROW that would come anew stays".
    private static void shakeByNoFour() {
        shakeIsNone("k01 b2401", 0, 1);
        shakeIsNone("k01 b2001", 0, 1);
        shakeIsNone("k01 m2001", 0, 1);
        shakeIsNone("k00 m2401 g0401", 0, 2);
        shakeIsNone("k01 b2701 b2601", 0, 3);
        shakeIsNone("k01 b2801 b2801 b2801 b2801 b2801", 0, 31);
        shakeIsNone("k01 r2001 r2101", 0, 3);
        // BEARS that are not of the set are not PRESSED, and TELL nothing here.
        shakeIsNone("k01 b2801 b2001 m2501", 0, 2);
    }

    // 24 "the first such row (BEARS, rising or the same)"
    private static void shakeFirstRow() {
        shakeIs("k01 b2801 b2801 m2501", 0, 7, 0);
        shakeIs("k01 b2701 b2801 m2501", 0, 7, 1);
        shakeIs("k01 b2801 b2801 b2801 m2501", 0, 15, 0, 1);
        shakeIs("k01 b2801 b2801 b2801 m2501", 0, 14, 1);
        shakeIs("k01 b2701 b2701 m2501", 0, 7, 0, 0);
        shakeIs("k01 b2701 b2701", 0, 3, 0, 0, 1, 1);
        shakeIs("k01 b2801 b2701", 0, 3, 0, 1, 1);
        shakeIs("k01 b2701 b2801", 0, 3, 0, 0, 1);
        shakeIs("k01 b2801 b2801 b2801 b2801", 0, 15, 0, 1, 2, 3);
        shakeIs("k01 b2401 b2801", 0, 2, 1);
        shakeIs("k01 b2801 m2401", 0, 3, 1);
        shakeIs("k01 m2401 b2801", 0, 3, 0);
        shakeIs("k01 m2401 m2401", 0, 3, 0);
        shakeIs("k01 b2801 b2801 b2801 b2801 b2801 b2801", 0, 48, 4, 5);
        shakeIs("k01 b2601 m2301 m2301 m2301", 0, 15, 1, 1, 2, 2);
    }

    // 24 "(each as long as its WEAR is below 9)"
    private static void shakeBelowNine() {
        shakeIs("k01 b2901 b2801", 0, 3, 1);
        shakeIs("k01 b2801 b2801", 0, 3, 0, 1);
        shakeIs("k01 l0901 g0901", 0, 3);
        shakeIsNone("k01 b2901 b2401", 0, 3);
        shakeIsNone("k00 b2901 b2001 g0001 g0001", 0, 15);
        shakeIsNone("k00 g0001 b2901 b2001 g0001", 0, 15);
    }

    // 24 "comes to a ROW (anew)": any ROW, of as many ints.
    private static void shakeComesToARow() {
        for (int r = 0; r < 6; r++) {
            BearWitness x = Due.court("k03 b2803 b2701");
            x.odds(0, 6);
            x.bear(1, 3);
            Due.is("24 shake(0, 3, " + r + ")", x.shake(0, 3, r), 3);
            Due.is("24 asked() stays", x.asked(), 1);
            Due.is("24 upper() stays", x.upper(), 3);
            Due.is("24 one ROW", x.count(9), 1);
            Edge.rowIs("24 shake(0, 3, " + r + ")", x, r, 0, 1, 1);
            Due.is("24 shake(2, 3, " + r + ")", x.shake(2, 3, r), 0);
            Due.is("24 one ROW, of no places", x.count(9), 1);
            Edge.rowIs("24 shake(2, 3, " + r + ")", x, r);
            x.row(r, 40);
            Due.is("24 shake(1, 3, " + r + ")", x.shake(1, 3, r), 1);
            Edge.rowIs("24 shake(1, 3, " + r + "), anew", x, r, 0);
        }
    }

    // 24 "comes to a ROW": no other one, though all of them be full.
    private static void shakeLetsOtherRowsStay() {
        for (int r = 0; r < 6; r++) {
            BearWitness x = Due.court("k03 b2803 b2701");
            for (int other = 0; other < 6; other++) {
                x.row(other, 40);
                x.lay(other, 0, 7);
                x.lay(other, 39, 8);
            }
            Due.is("24 shake(0, 3, " + r + ") of six full", x.shake(0, 3, r), 3);
            Edge.rowIs("24 shake(0, 3, " + r + ") of six full", x, r, 0, 1, 1);
            for (int other = 0; other < 6; other++) {
                int row = other;
                if (row == r) continue;
                Edge.tells("24 another one's first place", x, () -> x.at(row, 0), 1, 7);
                Edge.tells("24 another one's last place", x, () -> x.at(row, 39), 1, 8);
            }
        }
    }

    // "4 whom to call (aside)": nobody is PRESSED by it.
    private static void shakeIsAside() {
        BearWitness x = Due.court("k01 b2501 m2301");
        x.row(2, 4);
        x.lay(2, 0, 0);
        long before = ofBears(x);
        Due.is("24 shake(0, 1, 2)", x.shake(0, 1, 2), 4);
        x.call(0);
        x.cover(1);
        x.rivals(0, 1);
        x.apart();
        x.shown(3);
        x.duel(0, 2);
        Due.is("24 aside: no DEEDS", x.count(2), 0);
        Due.is("24 aside: BEARS are as they were", ofBears(x), before);
        for (int d = 0; d < 40; d++) x.turn(0);
        Due.is("24 with forty DEEDS", x.shake(0, 1, 2), 4);
    }

    private static long ofBears(BearWitness x) {
        long h = 0;
        for (int i = 0; i < x.count(0); i++) {
            for (int what = 0; what < 6; what++) h = 67 * h + Edge.ofBear(x, i, what);
        }
        return h;
    }

    // 24 "BAD; STATE: no BEARS. (STATE last.)"
    private static void shakeRefused() {
        BearWitness x = Due.court("k01 b2801 b2801");
        BearWitness y = new BearWitness();
        for (int thing : NO_THING) {
            Edge.bad("24 shake(" + thing + ", 1, 0)", x, () -> x.shake(thing, 1, 0));
            Edge.bad("24 shake(" + thing + ", 0, 0), no BEARS", y, () -> y.shake(thing, 0, 0));
        }
        for (int set : new int[] {-1, 4, 5, 64, Edge.MIN, Edge.MAX}) Edge.bad("24 shake(0, " + set + ", 0)", x, () -> x.shake(0, set, 0));
        for (int r : new int[] {-1, 6, Edge.MIN, Edge.MAX}) {
            Edge.bad("24 shake(0, 1, " + r + ")", x, () -> x.shake(0, 1, r));
            Edge.bad("24 shake(0, 0, " + r + "), no BEARS", y, () -> y.shake(0, 0, r));
        }
        Edge.bad("24 shake(0, 64, 0), no BEARS", y, () -> y.shake(0, 64, 0));
        Edge.bad("24 shake(0, -1, 0), no BEARS", y, () -> y.shake(0, -1, 0));
        Edge.bad("24 shake(0, 1, 0), no BEARS: a set of other BEARS", y, () -> y.shake(0, 1, 0));
        Edge.refused("24 shake(0, 0, 0), no BEARS", y, () -> y.shake(0, 0, 0), Edge.STATE);
        y.row(5, 3);
        Edge.refused("24 shake(5, 0, 5), no BEARS", y, () -> y.shake(5, 0, 5), Edge.STATE);
    }

    private static void coverIs(String s, int things, int set) {
        BearWitness x = Due.court(s);
        Edge.tells("25 cover(" + things + ") of \"" + s + "\"", x, () -> x.cover(things), Integer.bitCount(set), set);
    }

    // 25 "THINGS of a set (0 .. 63)": by none, by one, by all; TELL of, be it 1 or 0.
    private static void coverEdges() {
        coverIs("k00 b2063", 0, 0);
        coverIs("k00 b2963", 0, 0);
        coverIs("k00 b2063", 63, 1);
        coverIs("k63 b2063", 63, 1);
        coverIs("k21 b2001 b2002 b2004 b2008 b2016 b2032", 63, 63);
        coverIs("k21 b2001 b2002 b2004 b2008 b2016 b2032", 32, 32);
        coverIs("k21 b2001 b2002 b2004 b2008 b2016 b2032", 33, 33);
        coverIs("k21 b2001 b2002 b2004 b2008 b2016 b2063", 63, 32);
        coverIs("k00 m2521 g0042", 63, 3);
        coverIs("k00 p2021", 63, 1);
    }

    // 25 "The fewest BEARS ..; of like ones the least set by asked()."
    private static void coverLeast() {
        coverIs("k00 b2001 b2001", 1, 1);
        coverIs("k00 b2001 b2002 b2003", 3, 4);
        coverIs("k00 b2003 b2012 b2048 b2007 b2056", 63, 24);
        coverIs("k00 b2007 b2056 b2007 b2056", 63, 3);
        coverIs("k00 b2007 b2007 b2056 b2056", 63, 5);
        coverIs("k00 b2001 b2007 b2056 b2062", 63, 6);
        coverIs("k00 b2000 b2001", 1, 2);
    }

    private static void coverIsNone(String s, int things) {
        BearWitness x = Due.court(s);
        x.bear(0, 3);
        Edge.refused("25 cover(" + things + ") of \"" + s + "\"", x, () -> x.cover(things), Edge.NONE);
    }

    // 25 "NONE: it can't be."
    private static void coverNone() {
        coverIsNone("k00 b2031", 63);
        coverIsNone("k00 b2031", 32);
        coverIsNone("k00 b1063 b1063", 2);
        coverIsNone("k00 b2963", 1);
        coverIsNone("k00 r2363", 1);
        BearWitness x = Due.court("k00 b2001 b2002");
        x.turn(1);
        Edge.refused("25 cover(3), a face to the WALL", x, () -> x.cover(3), Edge.NONE);
        Edge.tells("25 cover(1), a face to the WALL", x, () -> x.cover(1), 1, 1);
        Edge.tells("25 cover(0), a face to the WALL", x, () -> x.cover(0), 0, 0);
    }

    // 25 "BAD; STATE: no BEARS."
    private static void coverRefused() {
        BearWitness x = Due.court("k00 b2063 b2063");
        BearWitness y = new BearWitness();
        x.cover(63);
        for (int things : new int[] {-1, 64, 65, 128, Edge.MIN, Edge.MAX}) {
            Edge.bad("25 cover(" + things + ")", x, () -> x.cover(things));
            Edge.bad("25 cover(" + things + "), no BEARS: ahead of STATE", y, () -> y.cover(things));
        }
        Edge.refused("25 cover(0), no BEARS", y, () -> y.cover(0), Edge.STATE);
        Edge.refused("25 cover(63), no BEARS", y, () -> y.cover(63), Edge.STATE);
    }

    // 26 "THINGS (bits) of which two BEARS (unlike ones) TELL, unlike one another."
    private static void rivalsUnlike() {
        BearWitness x = Due.court("k21 b2063 m2563 g0063 b2000 l0012 r2063");
        int[][] due = {{0, 1, 63}, {0, 2, 42}, {1, 2, 21}, {0, 3, 0}, {1, 4, 12}, {0, 4, 0}, {0, 5, 0}, {5, 1, 63}, {4, 2, 8}};
        for (int[] d : due) {
            Due.is("26 rivals(" + d[0] + ", " + d[1] + ")", x.rivals(d[0], d[1]), d[2]);
            Due.is("26 rivals(" + d[1] + ", " + d[0] + ")", x.rivals(d[1], d[0]), d[2]);
        }
        Due.is("26 asked() stays", x.asked(), 0);
        x.turn(1);
        Due.is("26 rivals(0, 1), a face to the WALL", x.rivals(0, 1), 0);
        Due.is("26 rivals(1, 0), a face to the WALL", x.rivals(1, 0), 0);
    }

    // 26 "BAD.": the same one, no such one.
    private static void rivalsRefused() {
        BearWitness x = Due.court("k21 b2063 m2563 g0063");
        for (int i = 0; i < 3; i++) {
            int who = i;
            Edge.bad("26 rivals(" + i + ", " + i + ")", x, () -> x.rivals(who, who));
        }
        for (int i : new int[] {-1, 3, 6, Edge.MIN, Edge.MAX}) {
            Edge.bad("26 rivals(" + i + ", 0)", x, () -> x.rivals(i, 0));
            Edge.bad("26 rivals(2, " + i + ")", x, () -> x.rivals(2, i));
            Edge.bad("26 rivals(" + i + ", " + i + ")", x, () -> x.rivals(i, i));
        }
        BearWitness y = new BearWitness();
        Edge.bad("26 rivals(0, 1), no BEARS", y, () -> y.rivals(0, 1));
        BearWitness z = Due.court("k21 b2063");
        Edge.bad("26 rivals(0, 1), one BEAR", z, () -> z.rivals(0, 1));
        Edge.bad("26 rivals(0, 0), one BEAR", z, () -> z.rivals(0, 0));
    }

    private static void apartIs(String s, int set) {
        BearWitness x = Due.court(s);
        Edge.tells("27 apart() of \"" + s + "\"", x, () -> x.apart(), Integer.bitCount(set), set);
    }

    // 27 "The fewest BEARS to be left out so that no two others are rivals in any THING; of like ones the least set"
    private static void apartEdges() {
        apartIs("k00 b2063", 0);
        apartIs("k00 b2063 b2063", 0);
        apartIs("k00 b2063 m2563", 1);
        apartIs("k00 b2063 m2963", 0);
        apartIs("k00 b2021 m2542", 0);
        apartIs("k00 b2063 m2532", 1);
        apartIs("k00 b2063 m2563 b2063", 2);
        apartIs("k00 b2063 b2063 m2563", 4);
        apartIs("k00 b2063 b2063 b2063 m2563 m2563 m2563", 7);
        apartIs("k00 m2563 b2063 m2563 b2063 m2563 b2063", 21);
        apartIs("k00 b2063 b2063 b2063 b2063 b2063 g0001", 32);
        apartIs("k00 g0063 b2001 b2002 b2004 b2008 b2016", 1);
        apartIs("k00 b2001 g0001 b2002 g0002 b2004 g0004", 21);
        BearWitness x = Due.court("k00 b2063 m2563");
        x.turn(0);
        Edge.tells("27 apart(), a face to the WALL", x, () -> x.apart(), 0, 0);
    }

    // 27 "STATE: no BEARS."
    private static void apartRefused() {
        BearWitness x = new BearWitness();
        Edge.refused("27 apart(), no BEARS", x, () -> x.apart(), Edge.STATE);
        Due.row(x, 0, 3, 3);
        x.at(0, 0);
        Edge.refused("27 apart(), no BEARS", x, () -> x.apart(), Edge.STATE);
    }
}
