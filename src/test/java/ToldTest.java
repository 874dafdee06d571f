/** Promises 37 to 43: what is told, and the constants. */
public final class ToldTest {
    private static final String ALL_KINDS = "k21 b2015l0060p1021m2631g1763r2015";

    public static void main(String[] args) {
        asked();
        askedStays();
        upperAndLower();
        count();
        findings();
        digest();
        constants();
        Due.end("ToldTest");
    }

    private static void asked() {
        BearWitness x = new BearWitness();
        Due.is("37 before", x.asked(), 0);
        x = Due.court(ALL_KINDS);
        Due.row(x, 0, 0, 1, 1, 0);
        Due.is("37 lay()", x.asked(), 0);
        x.at(0, 2);
        Due.is("37 at()", x.asked(), 1);
        Due.row(x, 1, 7, 8);
        x.mean(1);
        Due.is("37 mean()", x.asked(), 7);
        x.bear(1, 3);
        Due.is("37 bear()", x.asked(), 60);
        x.shown(9);
        Due.is("37 shown()", x.asked(), 15);
        x.call(1);
        Due.is("37 call()", x.asked(), 8);
        x.cover(63);
        Due.is("37 cover()", x.asked(), 16);
        x.apart();
        Due.is("37 apart()", x.asked(), 24);
        x.truths(0);
        Due.is("37 truths()", x.asked(), 1);
        x.sure(0);
        Due.is("37 sure()", x.asked(), 2);
        x.next(0);
        Due.is("37 next()", x.asked(), 8);
        x.walls(0);
        Due.is("37 walls()", x.asked(), 1);
        x.duel(2, 1);
        Due.is("37 duel()", x.asked(), 4);
    }

    private static void askedStays() {
        BearWitness x = Due.court(ALL_KINDS);
        Due.row(x, 0, 35, 0);
        x.bear(1, 3);
        x.text(1, 3);
        x.put(1, 0, 5);
        x.fault(0);
        x.mark(0, 1);
        x.mark(1, 1);
        x.press(0);
        x.mend(0);
        x.eye(0);
        x.turn(0);
        x.keep(0);
        x.on(0);
        x.undo(0);
        x.tells(0, 0);
        x.shake(0, 9, 1);
        x.rivals(0, 3);
        x.kinds(0, 0);
        x.odds(0, 3);
        x.mid(3);
        x.lots(3, 3);
        x.copy(0, 0, 0, 0, 1);
        x.tear(1);
        x.row(1, 2);
        x.count(5);
        x.findings(1);
        x.digest();
        x.next(0);
        x.lay(1, 2, 3);
        x.at(5, 0);
        x.mean(5);
        x.bear(9, 9);
        x.shown(64);
        x.cover(64);
        x.duel(9, 0);
        x.court(0);
        Due.is("37 all else lets it stay", x.asked(), 60);
        x.truths(0);
        Due.is("37 truths() tells NONE", x.asked(), BearWitness.NONE);
    }

    private static void upperAndLower() {
        BearWitness x = new BearWitness();
        Due.is("38 before", x.upper(), 0);
        Due.is("39 before", x.lower(), 1);
        x = Due.court(ALL_KINDS);
        x.odds(4, 6);
        Due.is("38 odds()", x.upper(), 11);
        Due.is("39 odds()", x.lower(), 16);
        x.odds(9, 9);
        x.mid(13);
        x.truths(0);
        x.bear(0, 0);
        Due.is("38 refused: stays", x.upper(), 11);
        Due.is("39 refused: stays", x.lower(), 16);
        x.mid(5);
        Due.is("38 mid()", x.upper(), 9773407);
        Due.is("39 mid()", x.lower(), 2985984);
        x.row(0, 0);
        x.truths(0);
        Due.is("38 truths()", x.upper(), 64);
        Due.is("39 truths()", x.lower(), 1);
    }

    private static void countsAre(String why, BearWitness x, int... v) {
        for (int what = 0; what < 12; what++) Due.is("40 " + why + ": count(" + what + ")", x.count(what), v[what]);
    }

    private static void count() {
        BearWitness x = new BearWitness();
        countsAre("new", x, 0, 0, 0, 0, 0, 0, 0, 0, 0, 0, 0, 0);
        x = Due.court(ALL_KINDS);
        countsAre("a COURT", x, 6, 21, 0, 0, 21, 13, 8, 2, 2, 0, 1, 0);
        x.row(0, 0);
        x.row(3, 3);
        x.row(5, 9);
        x.tear(3);
        x.text(2, 0);
        x.press(0);
        x.turn(1);
        x.turn(4);
        x.eye(5);
        x.keep(1);
        countsAre("DEEDS", x, 6, 21, 4, 18, 5, 14, 7, 2, 2, 2, 2, 1);
        x = Due.court("k00 l2000 m2000 r2000 b2000 g2000 p2000");
        Due.is("40 LOVED ones", x.count(7), 2);
        Due.is("40 MOTHY ones", x.count(8), 2);
        Due.is("40 count(12)", x.count(12), BearWitness.BAD);
        Due.is("40 count(-1)", x.count(-1), BearWitness.BAD);
    }

    private static void findings() {
        BearWitness x = new BearWitness();
        Due.is("41 before", x.finding(), 0);
        for (int f = 1; f < 6; f++) Due.is("42 before", x.findings(f), 0);
        x.tear(0);
        x.tear(0);
        x.row(0, 0);
        x.at(0, 0);
        x.mean(0);
        x.row(0, -1);
        Due.is("41 SIZE", x.finding(), 5);
        int[] due = {2, 1, 0, 1, 1};
        for (int f = 1; f < 6; f++) Due.is("42 findings(" + f + ")", x.findings(f), due[f - 1]);
        x.tear(9);
        x.call(0);
        x.row(0, 1);
        Due.is("41 others let it stay", x.finding(), 5);
        x.tear(1);
        Due.is("41 NOTHING", x.finding(), 1);
        Due.is("42 findings(0)", x.findings(0), BearWitness.BAD);
        Due.is("42 findings(6)", x.findings(6), BearWitness.BAD);
        Due.is("42 findings(-1)", x.findings(-1), BearWitness.BAD);
        Due.is("42 one more", x.findings(1), 3);
    }

    private static long fold(long h, long... v) {
        for (long one : v) h = 31 * h + one;
        return h;
    }

    private static void digest() {
        BearWitness x = new BearWitness();
        long none = fold(17, 0, 0, 0, 0, 0, 0, 0, 0, 0, 0, 0, 0, -1, -1, -1);
        Due.is("43 new", x.digest(), fold(none, -1, -1, -1, -1, -1, -1, -1, -1, -1, -1));
        Due.write(x, 0, "k01b2003");
        x.court(0);
        x.row(1, 2);
        x.lay(1, 1, -5);
        x.text(3, 1);
        x.put(3, 0, 200);
        x.press(0);
        x.keep(2);
        x.turn(0);
        x.at(1, 1);
        long h = fold(17, 1, 1, 2, 1, 0, 1, 2, 0, 0, 1, 2, 1);
        h = fold(h, 0, 2, 1, 3, 1, 0, -9, -9, -9, -9, -9, -9);
        h = fold(h, -1, -1, 1);
        h = fold(h, -1, 2, 0, -5, -1, -1, -1, -1);
        h = fold(h, 8, 'k', '0', '1', 'b', '2', '0', '0', '3', -1, -1, 1, -56);
        Due.is("43 a COURT", x.digest(), h);
        Due.is("43 once more", x.digest(), h);
        Due.is("43 asked() stays", x.asked(), -5);
        Due.is("43 upper() stays", x.upper(), 0);
    }

    private static void constants() {
        Due.is("BAD", BearWitness.BAD, -1);
        Due.is("FULL", BearWitness.FULL, -2);
        Due.is("FINDING", BearWitness.FINDING, -3);
        Due.is("STATE", BearWitness.STATE, -4);
        Due.is("SPENT", BearWitness.SPENT, -6);
        Due.is("NONE", BearWitness.NONE, -9);
    }
}
