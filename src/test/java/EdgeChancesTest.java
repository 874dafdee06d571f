/** The edges that promises 33 to 36 name, sentence by sentence. */
public final class EdgeChancesTest {
    private static final int[] NO_THING = {-1, 6, 7, Edge.MIN, Edge.MAX};
    private static final int[] NO_CHANCE = {-1, 13, 14, 100, Edge.MIN, Edge.MAX};
    private static final String ONES = "k63 b2463";
    private static final String THREE = "k63 b2063 b2063 b2063";

    public static void main(String[] args) {
        duelNoTurns();
        duelOrNone();
        duelTheFirstBegins();
        duelByTurns();
        duelWithinWear();
        duelRefused();
        oddsNoughtToTwelve();
        oddsOfTies();
        oddsInLowestTerms();
        oddsRefused();
        midEdges();
        midRefused();
        lotsOfSeeds();
        lotsEachANumber();
        lotsEachADeed();
        lotsUndone();
        lotsFull();
        lotsRefused();
        Due.end("EdgeChancesTest");
    }

    private static void duelIs(String s, int thing, int n, int told) {
        BearWitness x = Due.court(s);
        Edge.tells("33 duel(" + thing + ", " + n + ") of \"" + s + "\"", x, () -> x.duel(thing, n), 1, told);
        Due.is("33 no DEEDS by it", x.count(2), 0);
    }

    // 33 "n (0 .. 2) times each": by none it is as it is; "how many BEARS more TELL 1 than 0".
    private static void duelNoTurns() {
        duelIs("k01 b2001", 0, 0, 1);
        duelIs("k00 b2001", 0, 0, -1);
        duelIs("k01 b2001", 5, 0, 0);
        duelIs("k32 b2032", 5, 0, 1);
        duelIs("k01 b2901", 0, 0, 0);
        duelIs("k01 b2001 m2501", 0, 0, 0);
        duelIs("k63 b2063 b2063 b2063 b2063 b2063 b2063", 5, 0, 6);
        duelIs("k00 b2063 b2063 b2063 b2063 b2063 b2063", 0, 0, -6);
    }

    // 33 "MENDS a BEAR .., or none", "PRESSES one .., or none".
    private static void duelOrNone() {
        for (int n = 0; n <= 2; n++) {
            // The first one would only make it worse by MENDING, the other one by PRESSING.
            duelIs("k00 m2501", 0, n, 1);
            duelIs("k00 m2401", 0, n, -1);
            duelIs("k00 b2001 b2901", 0, n, -1);
            duelIs("k00 b2801", 0, n, -1);
        }
    }

    // 33 "the first one begins": and so the other one has the last word.
    private static void duelTheFirstBegins() {
        for (int n = 1; n <= 2; n++) {
            duelIs("k01 b2901", 0, n, 0);
            duelIs("k01 b2901 b2901", 0, n, 0);
            duelIs("k01 b2801 b2801", 0, n, 1);
            duelIs("k01 b2801", 0, n, 1);
            duelIs("k01 m2501", 0, n, -1);
            duelIs("k01 m2401", 0, n, 1);
            duelIs("k01 r2301", 0, n, 0);
            duelIs("k01 b2801 b2001", 0, n, 2);
            duelIs("k01 b2901 b2801", 0, n, 1);
        }
    }

    // 33 "By turns two counsels": not all times of the one ahead of all of the other.
    private static void duelByTurns() {
        duelIs("k01 b2701 b2801", 0, 0, 2);
        duelIs("k01 b2701 b2801", 0, 1, 2);
        duelIs("k01 b2701 b2801", 0, 2, 2);
        duelIs("k01 b2801 b2701", 0, 2, 2);
        duelIs("k01 b2701 m2401", 0, 2, 2);
        duelIs("k01 b2801 m2301", 0, 2, 2);
    }

    // 33 "(WEAR above 0)", "(WEAR below 9)".
    private static void duelWithinWear() {
        for (int n = 0; n <= 2; n++) {
            duelIs("k01 b2001 b2001", 0, n, 2);
            duelIs("k01 l0901 g0901", 0, n, 0);
            duelIs("k01 r2001", 0, n, 1);
            duelIs("k00 m2901", 0, n, 0);
            duelIs("k01 b2601", 0, n, 1);
        }
        // One of WEAR 0 that TELLS 0 can't be MENDED, one of WEAR 9 can't be PRESSED, wherever it sits.
        for (int n = 1; n <= 2; n++) {
            duelIs("k00 b2001 g0801 g0801", 0, n, 0);
            duelIs("k00 g0801 b2001 g0801", 0, n, 0);
            duelIs("k00 g0801 g0801 b2001", 0, n, 0);
            duelIs("k00 b2901 b2001", 0, n, -1);
            duelIs("k00 b2001 b2901", 0, n, -1);
            duelIs("k00 g0801 b2901 b2001 g0801", 0, n, 0);
        }
        BearWitness x = Due.court("k01 b2001 m2501");
        x.turn(1);
        Edge.tells("33 a face to the WALL", x, () -> x.duel(0, 2), 1, 1);
        for (int d = 0; d < 38; d++) x.turn(0);
        x.turn(1);
        Due.is("33 forty DEEDS", x.count(2), 40);
        Edge.tells("33 with forty DEEDS", x, () -> x.duel(0, 2), 1, 0);
    }

    // 33 "BAD; STATE: no BEARS."
    private static void duelRefused() {
        BearWitness x = Due.court("k01 b2001");
        BearWitness y = new BearWitness();
        x.duel(0, 0);
        for (int thing : NO_THING) {
            Edge.bad("33 duel(" + thing + ", 0)", x, () -> x.duel(thing, 0));
            Edge.bad("33 duel(" + thing + ", 0), no BEARS: ahead of STATE", y, () -> y.duel(thing, 0));
        }
        for (int n : new int[] {-1, 3, 4, Edge.MIN, Edge.MAX}) {
            Edge.bad("33 duel(0, " + n + ")", x, () -> x.duel(0, n));
            Edge.bad("33 duel(0, " + n + "), no BEARS: ahead of STATE", y, () -> y.duel(0, n));
        }
        Edge.refused("33 duel(0, 0), no BEARS", y, () -> y.duel(0, 0), Edge.STATE);
        Edge.refused("33 duel(5, 2), no BEARS", y, () -> y.duel(5, 2), Edge.STATE);
    }

    private static void oddsAre(String s, int thing, int p, long up, long down) {
        BearWitness x = Due.court(s);
        x.bear(0, 3);
        int asked = x.asked();
        Edge.tellsPart("34 odds(" + thing + ", " + p + ") of \"" + s + "\"", x, () -> x.odds(thing, p), up, down);
        Due.is("34 asked() stays", x.asked(), asked);
    }

    // "nothing at all by p (0 .. 12) of 12"; ANSWERS: "in lowest terms, the lower number above 0 (0 by 1)".
    private static void oddsNoughtToTwelve() {
        long[] up = {1, 11, 5, 3, 2, 7, 1, 5, 1, 1, 1, 1, 0};
        long[] down = {1, 12, 6, 4, 3, 12, 2, 12, 3, 4, 6, 12, 1};
        for (int p = 0; p <= 12; p++) {
            oddsAre("k01 b2001", 0, p, up[p], down[p]);
            oddsAre("k32 b2032", 5, p, up[p], down[p]);
            oddsAre("k00 b2001", 0, p, 0, 1);
            oddsAre("k01 b2901", 0, p, 0, 1);
            oddsAre("k01 b2001 b2000", 0, p, up[p], down[p]);
        }
    }

    // 34 "SHOWN": as many 1 as 0 is not.
    private static void oddsOfTies() {
        oddsAre("k01 b2001 m2501", 0, 0, 0, 1);
        oddsAre("k01 b2001 m2501", 0, 6, 1, 4);
        oddsAre("k01 b2001 m2501", 0, 1, 11, 144);
        oddsAre("k01 b2001 m2501", 0, 12, 0, 1);
        oddsAre("k01 b2001 b2001 m2501", 0, 0, 1, 1);
        oddsAre("k01 b2001 b2001 m2501", 0, 6, 1, 2);
        oddsAre("k01 b2001 b2001 m2501", 0, 3, 21, 32);
        BearWitness x = Due.court("k01 b2001 m2501");
        x.turn(1);
        Edge.tellsPart("34 a face to the WALL", x, () -> x.odds(0, 1), 11, 12);
        x.turn(0);
        Edge.tellsPart("34 both to the WALL", x, () -> x.odds(0, 1), 0, 1);
    }

    // 34 six BEARS: the greatest numbers.
    private static void oddsInLowestTerms() {
        String six = "k01 b2001 l2001 p2001 m2001 g2001 r2001";
        oddsAre(six, 0, 0, 1, 1);
        oddsAre(six, 0, 1, 2985983, 2985984);
        oddsAre(six, 0, 2, 46655, 46656);
        oddsAre(six, 0, 3, 4095, 4096);
        oddsAre(six, 0, 4, 728, 729);
        oddsAre(six, 0, 6, 63, 64);
        oddsAre(six, 0, 11, 1214423, 2985984);
        oddsAre(six, 0, 12, 0, 1);
    }

    // 34 "BAD; STATE: no BEARS."
    private static void oddsRefused() {
        BearWitness x = Due.court("k01 b2001 m2501");
        BearWitness y = new BearWitness();
        x.odds(0, 1);
        for (int thing : NO_THING) {
            Edge.bad("34 odds(" + thing + ", 0)", x, () -> x.odds(thing, 0));
            Edge.bad("34 odds(" + thing + ", 0), no BEARS: ahead of STATE", y, () -> y.odds(thing, 0));
        }
        for (int p : NO_CHANCE) {
            Edge.bad("34 odds(0, " + p + ")", x, () -> x.odds(0, p));
            Edge.bad("34 odds(0, " + p + "), no BEARS: ahead of STATE", y, () -> y.odds(0, p));
        }
        Edge.refused("34 odds(0, 0), no BEARS", y, () -> y.odds(0, 0), Edge.STATE);
        Edge.refused("34 odds(5, 12), no BEARS", y, () -> y.odds(5, 12), Edge.STATE);
    }

    private static void midIs(String s, int p, long up, long down) {
        BearWitness x = Due.court(s);
        Edge.tellsPart("35 mid(" + p + ") of \"" + s + "\"", x, () -> x.mid(p), up, down);
    }

    // 35 "The mean of how many THINGS are SHOWN then"
    private static void midEdges() {
        midIs("k63 b2063", 0, 6, 1);
        midIs("k63 b2063", 1, 11, 2);
        midIs("k63 b2063", 6, 3, 1);
        midIs("k63 b2063", 11, 1, 2);
        midIs("k63 b2063", 12, 0, 1);
        midIs("k00 b2063", 0, 0, 1);
        midIs("k00 b2063", 7, 0, 1);
        midIs("k01 b2063", 1, 11, 12);
        midIs("k01 b2001 m2501", 0, 0, 1);
        midIs("k01 b2001 m2501", 6, 1, 4);
        midIs("k03 b2001 b2002", 6, 1, 1);
        midIs("k03 b2003 b2001", 6, 5, 4);
        midIs("k63 b2063 b2063 b2063 b2063 b2063 b2063", 0, 6, 1);
        midIs("k63 b2063 b2063 b2063 b2063 b2063 b2063", 11, 1214423, 497664);
        midIs("k63 b2063 b2063 b2063 b2063 b2063 b2063", 12, 0, 1);
        BearWitness x = Due.court("k63 b2063");
        x.turn(0);
        Edge.tellsPart("35 a face to the WALL", x, () -> x.mid(1), 0, 1);
    }

    // 35 "BAD; STATE: no BEARS."
    private static void midRefused() {
        BearWitness x = Due.court("k63 b2063");
        BearWitness y = new BearWitness();
        x.mid(1);
        for (int p : NO_CHANCE) {
            Edge.bad("35 mid(" + p + ")", x, () -> x.mid(p));
            Edge.bad("35 mid(" + p + "), no BEARS: ahead of STATE", y, () -> y.mid(p));
        }
        Edge.refused("35 mid(0), no BEARS", y, () -> y.mid(0), Edge.STATE);
        Edge.refused("35 mid(12), no BEARS", y, () -> y.mid(12), Edge.STATE);
    }

    /** n DEEDS by LOTS: how many are SHOWN, and then all WEAR, all EYES, the faces to the WALL. */
    private static void lotsAre(String s, int seed, int n, int... due) {
        BearWitness x = Due.court(s);
        String call = "36 lots(" + n + ", " + seed + ") of \"" + s + "\"";
        Due.is(call, x.lots(n, seed), due[0]);
        Due.is(call + ": WEAR", x.count(5), due[1]);
        Due.is(call + ": EYES", x.count(6), due[2]);
        Due.is(call + ": the WALL", x.count(3), due[3]);
        Due.is(call + ": DEEDS", x.count(2), n);
        Due.is(call + ": SHOWN", Integer.bitCount(x.count(4)), due[0]);
    }

    // Terms: "the first from a seed (1 .. 2147483646)". 36 "n (1 .. 20)"
    private static void lotsOfSeeds() {
        lotsAre(Edge.ALL_KINDS, 1, 1, 3, 14, 8, 0);
        lotsAre(Edge.ALL_KINDS, 1, 2, 3, 14, 8, 0);
        lotsAre(Edge.ALL_KINDS, 1, 20, 5, 17, 7, 34);
        lotsAre(Edge.ALL_KINDS, 2147483646, 1, 4, 13, 7, 0);
        lotsAre(Edge.ALL_KINDS, 2147483646, 2, 4, 14, 7, 0);
        lotsAre(Edge.ALL_KINDS, 2147483646, 20, 2, 23, 5, 22);
        lotsAre(Edge.ALL_KINDS, 2147483645, 1, 3, 13, 8, 0);
        lotsAre(Edge.ALL_KINDS, 2147483645, 20, 5, 16, 7, 38);
        lotsAre(Edge.ALL_KINDS, 1073741824, 2, 3, 14, 7, 0);
        lotsAre(Edge.ALL_KINDS, 1073741824, 20, 3, 19, 6, 8);
        lotsAre(Edge.ALL_KINDS, 48271, 20, 5, 16, 7, 34);
    }

    // Terms: "a number comes from the one ahead by 48271 times it modulo 2147483647": one for each DEED.
    private static void lotsEachANumber() {
        // From 1: 48271 (PRESSED), 182605794 (MENDED), .. from 2147483646: 2147435376 (an EYE), 1964877853 (PRESSED).
        lotsAre(ONES, 1, 1, 6, 5, 2, 0);
        lotsAre(ONES, 1, 2, 6, 4, 2, 0);
        lotsAre(ONES, 1, 20, 0, 6, 0, 0);
        lotsAre(ONES, 2147483646, 1, 3, 4, 1, 0);
        lotsAre(ONES, 2147483646, 2, 3, 5, 1, 0);
        lotsAre(ONES, 2147483646, 20, 0, 9, 0, 1);
        lotsAre(ONES, 2147483645, 1, 6, 3, 2, 0);
        lotsAre(ONES, 2147483645, 2, 0, 3, 2, 1);
        lotsAre(ONES, 2147483645, 20, 0, 2, 1, 1);
        lotsAre(THREE, 1, 20, 6, 4, 4, 6);
        lotsAre(THREE, 2147483646, 2, 6, 1, 5, 0);
        lotsAre(THREE, 2147483646, 20, 3, 10, 2, 4);
        lotsAre(THREE, 1073741824, 20, 6, 6, 4, 1);
        // Two of one go otherwise than two of which each begins anew.
        BearWitness x = Due.court(ONES);
        x.lots(1, 1);
        x.lots(1, 1);
        Due.is("36 each call begins from its seed", x.count(5), 6);
        x.lots(1, 48271);
        Due.is("36 the second number from the first", x.count(5), 5);
    }

    // 36 "each a DEED, also where nothing becomes other by it", "(each if it can be)".
    private static void lotsEachADeed() {
        // By 237956 PRESSED, by 141414 MENDED, by 189685 an EYE comes off, by 624124 TURNED: the first of these seeds.
        int[] seed = {44493, 44491, 44492, 44501};
        String[] can = {"k63 b2863", "k63 b2163", "k63 b1063", "k63 b2063"};
        String[] cannot = {"k63 b2963", "k63 b2063", "k63 b0063"};
        int[][] then = {{9, 2, 0}, {0, 2, 0}, {0, 0, 0}, {0, 2, 1}};
        int[][] stays = {{9, 2, 0}, {0, 2, 0}, {0, 0, 0}};
        int[] shown = {0, 6, 0, 0};
        for (int d = 0; d < 4; d++) lotsAre(can[d], seed[d], 1, shown[d], then[d][0], then[d][1], then[d][2]);
        for (int d = 0; d < 3; d++) {
            lotsAre(cannot[d], seed[d], 1, shown[d], stays[d][0], stays[d][1], stays[d][2]);
            BearWitness x = Due.court(cannot[d]);
            long before = x.digest();
            x.lots(1, seed[d]);
            Due.is("36 a DEED by which nothing becomes other", x.count(2), 1);
            Due.is("36 it is undone", x.undo(0), 1);
            Due.is("36 all as before", x.digest(), before);
        }
    }

    // 36, 18: DEEDS by LOTS are undone like others, those too by which nothing became other.
    private static void lotsUndone() {
        for (int seed : new int[] {1, 7, 4711, 1073741824, 2147483646}) {
            BearWitness x = Due.court("k42 b2063 m0963 g1863");
            long first = x.digest();
            long[] then = new long[21];
            for (int n = 1; n <= 20; n++) {
                x.lots(n, seed);
                then[n] = x.digest();
                Due.is("36 undo(0) of " + n, x.undo(0), n);
                Due.is("36 undo(0): as at first", x.digest(), first);
            }
            x.lots(20, seed);
            for (int n = 19; n >= 1; n--) {
                Due.is("36 undo(" + n + ")", x.undo(n), 1);
                Due.is("36 undo(" + n + "): as by " + n, x.digest(), then[n]);
            }
        }
    }

    // 36 "FULL: with n more there would be more than 40 DEEDS. (FULL last.)"
    private static void lotsFull() {
        for (int n = 1; n <= 20; n++) {
            BearWitness x = Due.court("k01 b2001");
            for (int d = 0; d < 40 - n; d++) x.turn(0);
            int most = n;
            if (n < 20) Edge.refused("36 lots(" + (n + 1) + ", 5), " + n + " can be", x, () -> x.lots(most + 1, 5), Edge.FULL);
            Due.is("36 lots(" + n + ", 5), " + n + " can be", x.lots(n, 5) >= 0 ? 1 : 0, 1);
            Due.is("36 forty DEEDS", x.count(2), 40);
            Edge.refused("36 lots(1, 5), none can be", x, () -> x.lots(1, 5), Edge.FULL);
            Edge.refused("36 lots(20, 5), none can be", x, () -> x.lots(20, 5), Edge.FULL);
            Edge.bad("36 lots(21, 5): ahead of FULL", x, () -> x.lots(21, 5));
            Edge.bad("36 lots(0, 5): ahead of FULL", x, () -> x.lots(0, 5));
            Edge.bad("36 lots(1, 0): ahead of FULL", x, () -> x.lots(1, 0));
            Due.is("36 all can be undone", x.undo(0), 40);
        }
        BearWitness x = Due.court("k01 b2001");
        Due.is("36 twice twenty", x.lots(20, 1) >= 0 && x.lots(20, 2) >= 0 ? 1 : 0, 1);
        Edge.refused("17 FULL by LOTS", x, () -> x.turn(0), Edge.FULL);
    }

    // 36 "BAD; STATE: no BEARS"
    private static void lotsRefused() {
        BearWitness x = Due.court("k01 b2001");
        BearWitness y = new BearWitness();
        for (int n : new int[] {-1, 0, 21, 22, 40, Edge.MIN, Edge.MAX}) {
            Edge.bad("36 lots(" + n + ", 1)", x, () -> x.lots(n, 1));
            Edge.bad("36 lots(" + n + ", 1), no BEARS: ahead of STATE", y, () -> y.lots(n, 1));
        }
        for (int seed : new int[] {0, -1, -2147483647, Edge.MIN, Edge.MAX}) {
            Edge.bad("36 lots(1, " + seed + ")", x, () -> x.lots(1, seed));
            Edge.bad("36 lots(1, " + seed + "), no BEARS: ahead of STATE", y, () -> y.lots(1, seed));
        }
        Edge.refused("36 lots(1, 1), no BEARS", y, () -> y.lots(1, 1), Edge.STATE);
        Edge.refused("36 lots(20, 2147483646), no BEARS", y, () -> y.lots(20, 2147483646), Edge.STATE);
    }
}
