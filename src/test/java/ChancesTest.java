/** Promises 33 to 36: by turns, chances, lots. */
public final class ChancesTest {
    private static final String ALL_KINDS = "k21 b2015l0060p1021m2631g1763r2015";

    public static void main(String[] args) {
        duel();
        duelRefused();
        odds();
        mid();
        lots();
        lotsEach();
        lotsRefused();
        Due.end("ChancesTest");
    }

    private static void duelIs(BearWitness x, int thing, int n, int want) {
        Due.is("33 duel(" + thing + ", " + n + ")", x.duel(thing, n), 1);
        Due.is("33 asked() of duel(" + thing + ", " + n + ")", x.asked(), want);
        Due.is("33 duel() is aside", x.count(2), 0);
    }

    private static void duel() {
        BearWitness x = Due.court("k01 b2901");
        duelIs(x, 0, 0, 0);
        // MENDED to 8, PRESSED to 9 again.
        duelIs(x, 0, 1, 0);
        x = Due.court("k01 b2901 b2901");
        duelIs(x, 0, 1, 0);
        x = Due.court("k01 b2901 m2501");
        duelIs(x, 0, 0, -1);
        // MENDED to 4 (or 8) and PRESSED again.
        duelIs(x, 0, 1, -1);
        x = Due.court("k00 b2801 b2801");
        duelIs(x, 0, 0, -2);
        // The second one would rather do nothing than PRESS.
        duelIs(x, 0, 1, -2);
        // The first one MENDS 8 to 7, and then the second one can't any more.
        x = Due.court("k01 b2801");
        duelIs(x, 0, 0, 1);
        duelIs(x, 0, 1, 1);
        duelIs(x, 0, 2, 1);
        x = Due.court("k01 b2801 b2801");
        duelIs(x, 0, 1, 1);
        duelIs(x, 0, 2, 1);
        // No WEAR to MEND: the second one turns the MOTHY one round by two.
        x = Due.court("k01 m2301");
        duelIs(x, 0, 1, 1);
        duelIs(x, 0, 2, 1);
        x.turn(0);
        Due.is("33 a face to the WALL", x.duel(0, 2), 1);
        Due.is("33 TELLS nothing", x.asked(), 0);
    }

    private static void duelRefused() {
        BearWitness x = Due.court("k01 b2001");
        Due.is("33 duel(6, 0)", x.duel(6, 0), BearWitness.BAD);
        Due.is("33 duel(-1, 0)", x.duel(-1, 0), BearWitness.BAD);
        Due.is("33 duel(0, 3)", x.duel(0, 3), BearWitness.BAD);
        Due.is("33 duel(0, -1)", x.duel(0, -1), BearWitness.BAD);
        x = new BearWitness();
        Due.is("33 no BEARS", x.duel(0, 0), BearWitness.STATE);
        Due.is("33 no BEARS, BAD ahead", x.duel(0, 3), BearWitness.BAD);
    }

    private static void told(String call, BearWitness x, int got, long up, long down) {
        Due.is(call, got, 1);
        Due.is(call + ": upper()", x.upper(), up);
        Due.is(call + ": lower()", x.lower(), down);
    }

    private static void odds() {
        BearWitness x = Due.court(ALL_KINDS);
        told("34 odds(0, 0)", x, x.odds(0, 0), 1, 1);
        told("34 odds(2, 4)", x, x.odds(2, 4), 706, 729);
        told("34 odds(4, 6)", x, x.odds(4, 6), 11, 16);
        told("34 odds(5, 12)", x, x.odds(5, 12), 0, 1);
        x = Due.court("k01 b2001 m2501");
        told("34 a tie shows nothing", x, x.odds(0, 0), 0, 1);
        told("34 the one speaks, the other not", x, x.odds(0, 3), 3, 16);
        told("34 nobody SEES it", x, x.odds(1, 3), 0, 1);
        Due.is("34 asked() stays", x.asked(), 0);
        Due.is("34 odds(6, 0)", x.odds(6, 0), BearWitness.BAD);
        Due.is("34 odds(-1, 0)", x.odds(-1, 0), BearWitness.BAD);
        Due.is("34 odds(0, 13)", x.odds(0, 13), BearWitness.BAD);
        Due.is("34 odds(0, -1)", x.odds(0, -1), BearWitness.BAD);
        x = new BearWitness();
        Due.is("34 no BEARS", x.odds(0, 0), BearWitness.STATE);
        Due.is("34 no BEARS, BAD ahead", x.odds(0, 13), BearWitness.BAD);
    }

    private static void mid() {
        BearWitness x = Due.court(ALL_KINDS);
        told("35 mid(0)", x, x.mid(0), 3, 1);
        told("35 mid(5)", x, x.mid(5), 9773407, 2985984);
        told("35 mid(12)", x, x.mid(12), 0, 1);
        x = Due.court("k03 b2003");
        told("35 mid(3) of one BEAR", x, x.mid(3), 3, 2);
        Due.is("35 mid(13)", x.mid(13), BearWitness.BAD);
        Due.is("35 mid(-1)", x.mid(-1), BearWitness.BAD);
        Due.is("35 asked() stays", x.asked(), 0);
        x = new BearWitness();
        Due.is("35 no BEARS", x.mid(0), BearWitness.STATE);
        Due.is("35 no BEARS, BAD ahead", x.mid(13), BearWitness.BAD);
    }

    private static void lots() {
        // Seed 1: 48271, 182605794, 1291394886, 1914720637, ...
        BearWitness x = Due.court("k03 b2002 b1063");
        // 48271: BEAR 1, by 8: 6033, modulo 8: 1, PRESSED.
        Due.is("36 lots(1, 1)", x.lots(1, 1), 2);
        x.bear(1, 2);
        Due.is("36 PRESSED", x.asked(), 1);
        x.undo(0);
        // 182605794: BEAR 0, by 8: 22825724, modulo 8: 4, MENDED (at 0: a DEED by which nothing is other).
        // 1291394886: BEAR 0, by 8: 161424360, modulo 8: 0, PRESSED.
        // 1914720637: BEAR 1, by 8: 239340079, modulo 8: 7, TURNED.
        Due.is("36 lots(4, 1)", x.lots(4, 1), 1);
        Due.is("36 each a DEED", x.count(2), 4);
        Due.is("36 WEAR", x.count(5), 2);
        Due.is("36 the WALL", x.count(3), 2);
        Due.is("36 undo(2)", x.undo(2), 2);
        Due.is("36 WEAR then", x.count(5), 1);
        Due.is("36 undo(1)", x.undo(1), 1);
        Due.is("36 nothing was MENDED", x.count(5), 1);
        x.undo(0);
        Due.is("36 the greatest seed", x.lots(1, 2147483646) >= 0 ? 1 : 0, 1);
        Due.is("36 asked() stays", x.asked(), 1);
    }

    /** One BEAR, so that it is always the one: what is done to it, by the first number alone. */
    private static void lotsEach() {
        // 237956, 479311, 93143, 527582, 141414, 575853, 189685, 624124: by 8, modulo 8: 0, 1, .. 7.
        int[] seeds = {44493, 44498, 44490, 44499, 44491, 44500, 44492, 44501};
        int[] wear = {5, 5, 5, 5, 3, 3, 4, 4};
        int[] eyes = {2, 2, 2, 2, 2, 2, 1, 2};
        BearWitness x = Due.court("k03 b2403");
        for (int what = 0; what < 8; what++) {
            Due.is("36 by " + what, x.lots(1, seeds[what]), what == 7 ? 0 : what == 6 ? 1 : 2);
            Due.is("36 by " + what + ": WEAR", x.count(5), wear[what]);
            Due.is("36 by " + what + ": EYES", x.count(6), eyes[what]);
            Due.is("36 by " + what + ": the WALL", x.count(3), what == 7 ? 1 : 0);
            x.undo(0);
        }
        int[] stays = {44499, 44492};
        for (int seed : stays) {
            x = Due.court("k03 l0903");
            Due.is("36 it can't be", x.lots(1, seed), 0);
            Due.is("36 it can't be: a DEED", x.count(2), 1);
            Due.is("36 it can't be: WEAR", x.count(5), 9);
            Due.is("36 it can't be: undone", x.undo(0), 1);
            Due.is("36 it can't be: WEAR, undone", x.count(5), 9);
            Due.is("36 it can't be: EYES, undone", x.count(6), 0);
        }
    }

    private static void lotsRefused() {
        BearWitness x = Due.court("k01 b2001");
        Due.is("36 lots(0, 1)", x.lots(0, 1), BearWitness.BAD);
        Due.is("36 lots(21, 1)", x.lots(21, 1), BearWitness.BAD);
        Due.is("36 lots(1, 0)", x.lots(1, 0), BearWitness.BAD);
        Due.is("36 lots(1, 2147483647)", x.lots(1, 2147483647), BearWitness.BAD);
        Due.is("36 lots(1, -5)", x.lots(1, -5), BearWitness.BAD);
        x.lots(20, 1);
        x.turn(0);
        Due.is("36 more than 40", x.lots(20, 1), BearWitness.FULL);
        Due.is("36 BAD ahead of FULL", x.lots(20, 0), BearWitness.BAD);
        Due.is("36 refused: no DEEDS", x.count(2), 21);
        Due.is("36 just 40", x.lots(19, 1) >= 0 ? 1 : 0, 1);
        Due.is("36 40 DEEDS", x.count(2), 40);
        Due.is("36 one more", x.lots(1, 1), BearWitness.FULL);
        x = new BearWitness();
        Due.is("36 no BEARS", x.lots(1, 1), BearWitness.STATE);
        Due.is("36 no BEARS, BAD ahead", x.lots(0, 1), BearWitness.BAD);
    }
}
