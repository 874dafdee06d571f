import java.util.function.IntSupplier;

/** The edges that promises 28 to 32 name, sentence by sentence. */
public final class EdgeLooksTest {
    private static final int[] NO_ROW = {-1, 6, 7, Edge.MIN, Edge.MAX};

    public static void main(String[] args) {
        for (int p = 28; p <= 32; p++) {
            pairsNoughtToEight(p);
            sizes(p);
            unlike(p);
            lastPairUnlike(p);
            ofTheBearsThere(p);
            noRow(p);
            noBears(p);
            inThisOrder(p);
        }
        kindsBadAhead();
        truthsNumbers();
        truthsNone();
        truthsEachAnswer();
        truthsEachSet();
        sureEdges();
        nextParts();
        nextNone();
        kindsOfItsOwn();
        kindsAllElseAsItIs();
        kindsNone();
        wallsMust();
        wallsCannot();
        wallsAllElseAsItIs();
        Due.end("EdgeLooksTest");
    }

    private static BearWitness six() {
        BearWitness x = Due.court(Edge.ALL_KINDS);
        x.odds(4, 6);
        x.bear(1, 3);
        return x;
    }

    /** The call of a promise: kinds() of BEAR 0. */
    private static IntSupplier ask(int p, BearWitness x, int r) {
        switch (p) {
            case 28: return () -> x.truths(r);
            case 29: return () -> x.sure(r);
            case 30: return () -> x.next(r);
            case 31: return () -> x.kinds(0, r);
            default: return () -> x.walls(r);
        }
    }

    /** Answered: no refusal. */
    private static void answers(String call, int got) {
        Due.is(call + " is answered", got >= 0 || got == Edge.NONE ? 1 : 0, 1);
    }

    // "a ROW of pairs, 0 to 8": each number of them, any ROW.
    private static void pairsNoughtToEight(int p) {
        BearWitness x = six();
        for (int pairs = 0; pairs <= 8; pairs++) {
            x.row(pairs % 6, 2 * pairs);
            for (int d = 0; d < pairs; d++) x.lay(pairs % 6, 2 * d + 1, 1);
            answers(p + " " + pairs + " pairs", ask(p, x, pairs % 6).getAsInt());
            x.tear(pairs % 6);
        }
        Due.is(p + " no FINDING", x.finding(), 0);
    }

    // SIZE: "too many, not as many as due".
    private static void sizes(int p) {
        BearWitness x = six();
        for (int n : new int[] {1, 3, 7, 15, 17, 18, 19, 20, 39, 40}) {
            x.row(0, n);
            Edge.finds(p + " SIZE: " + n + " ints", x, ask(p, x, 0), Edge.SIZE);
        }
        Due.row(x, 0, 99, 1, 1);
        Edge.finds(p + " SIZE ahead of UNLIKE: odd", x, ask(p, x, 0), Edge.SIZE);
        x.row(0, 18);
        x.lay(0, 0, -1);
        Edge.finds(p + " SIZE ahead of UNLIKE: nine pairs", x, ask(p, x, 0), Edge.SIZE);
    }

    // "8 times a BEAR and a THING, what it TOLD: 1, 0, or 2: nothing"; UNLIKE: "a number that is none".
    private static void unlike(int p) {
        int[] none = {6, 7, 14, 15, 46, 47, 48, 49, 53, 63, 64, -1, -2, -8, Edge.MIN, Edge.MAX, Edge.MIN + 8};
        BearWitness x = six();
        for (int v : none) {
            Due.row(x, 0, v, 2);
            Edge.finds(p + " UNLIKE: " + v + ", 2", x, ask(p, x, 0), Edge.UNLIKE);
        }
        BearWitness y = six();
        for (int v : new int[] {3, 4, -1, -9, 256, Edge.MIN, Edge.MAX}) {
            Due.row(y, 0, 0, v);
            Edge.finds(p + " UNLIKE: 0, " + v, y, ask(p, y, 0), Edge.UNLIKE);
            Due.row(y, 0, 45, v);
            Edge.finds(p + " UNLIKE: 45, " + v, y, ask(p, y, 0), Edge.UNLIKE);
        }
        BearWitness z = six();
        for (int asking : new int[] {0, 5, 8, 13, 40, 45}) {
            for (int told = 0; told <= 2; told++) {
                Due.row(z, 0, asking, told);
                answers(p + " of " + asking + ", " + told, ask(p, z, 0).getAsInt());
            }
        }
        Due.is(p + " no FINDING", z.finding(), 0);
    }

    private static void lastPairUnlike(int p) {
        BearWitness x = six();
        x.row(3, 16);
        for (int d = 0; d < 8; d++) x.lay(3, 2 * d, 8 * (d % 6) + d % 6);
        answers(p + " eight pairs", ask(p, x, 3).getAsInt());
        for (int d = 0; d < 8; d++) {
            x.lay(3, 2 * d + 1, 3);
            Edge.finds(p + " UNLIKE: told in pair " + d, x, ask(p, x, 3), Edge.UNLIKE);
            x.lay(3, 2 * d + 1, 2);
            x.lay(3, 2 * d, 8 * d + 6);
            Edge.finds(p + " UNLIKE: asked in pair " + d, x, ask(p, x, 3), Edge.UNLIKE);
            x.lay(3, 2 * d, 0);
        }
        answers(p + " eight pairs then", ask(p, x, 3).getAsInt());
    }

    // "a BEAR": one of those that are there, however few.
    private static void ofTheBearsThere(int p) {
        String s = "k21";
        for (int n = 1; n <= 6; n++) {
            s = s + "b2001";
            BearWitness x = Due.court(s);
            Due.row(x, 0, 8 * n - 8 + 5, 2);
            answers(p + " the last BEAR of " + n, ask(p, x, 0).getAsInt());
            Due.row(x, 0, 8 * n, 2);
            Edge.finds(p + " UNLIKE: BEAR " + n + " of " + n, x, ask(p, x, 0), Edge.UNLIKE);
        }
    }

    // "BAD", "NOTHING".
    private static void noRow(int p) {
        BearWitness x = six();
        for (int r : NO_ROW) Edge.bad(p + " of ROW " + r, x, ask(p, x, r));
        for (int r = 0; r < 6; r++) Edge.finds(p + " of ROW " + r + ", missing", x, ask(p, x, r), Edge.NOTHING);
    }

    // "STATE: no BEARS": ahead of NOTHING, SIZE, UNLIKE, behind BAD. (kinds(): there each BEAR is BAD.)
    private static void noBears(int p) {
        BearWitness x = new BearWitness();
        int want = p == 31 ? Edge.BAD : Edge.STATE;
        for (int r : NO_ROW) Edge.bad(p + " of ROW " + r + ", no BEARS", x, ask(p, x, r));
        Edge.refused(p + " no BEARS, ahead of NOTHING", x, ask(p, x, 0), want);
        x.row(1, 3);
        Edge.refused(p + " no BEARS, ahead of SIZE", x, ask(p, x, 1), want);
        x.row(2, 2);
        Edge.refused(p + " no BEARS, ahead of UNLIKE", x, ask(p, x, 2), want);
        x.row(3, 0);
        Edge.refused(p + " no BEARS, no pairs", x, ask(p, x, 3), want);
    }

    // "(In this order.)": all that can be wrong at once, mended one by one.
    private static void inThisOrder(int p) {
        BearWitness x = new BearWitness();
        Edge.bad(p + " first BAD", x, ask(p, x, 6));
        if (p != 31) Edge.refused(p + " then STATE", x, ask(p, x, 0), Edge.STATE);
        Due.write(x, 0, "k01b2001");
        x.court(0);
        Edge.finds(p + " then NOTHING", x, ask(p, x, 0), Edge.NOTHING);
        Due.row(x, 0, 6, 3, 6);
        Edge.finds(p + " then SIZE", x, ask(p, x, 0), Edge.SIZE);
        Due.row(x, 0, 6, 3);
        Edge.finds(p + " then UNLIKE", x, ask(p, x, 0), Edge.UNLIKE);
        Due.row(x, 0, 0, 1);
        answers(p + " then it is answered", ask(p, x, 0).getAsInt());
    }

    // 31 "BAD; NOTHING; SIZE; UNLIKE. (In this order.)": a BEAR that is none is BAD.
    private static void kindsBadAhead() {
        BearWitness x = Due.court("k01 b2001 b2001");
        Due.row(x, 1, 1, 1, 1);
        Due.row(x, 2, 99, 1);
        x.row(3, 0);
        for (int i : new int[] {-1, 2, 5, 6, Edge.MIN, Edge.MAX}) {
            Edge.bad("31 kinds(" + i + ", 3)", x, () -> x.kinds(i, 3));
            Edge.bad("31 kinds(" + i + ", 0): ahead of NOTHING", x, () -> x.kinds(i, 0));
            Edge.bad("31 kinds(" + i + ", 1): ahead of SIZE", x, () -> x.kinds(i, 1));
        }
        BearWitness y = Due.court("k01 b2001 b2001");
        Due.row(y, 2, 99, 1);
        Due.row(y, 4, 8, 1, 48, 1);
        Edge.bad("31 kinds(2, 2): ahead of UNLIKE", y, () -> y.kinds(2, 2));
        Edge.bad("31 kinds(2, 6)", y, () -> y.kinds(2, 6));
        for (int r : NO_ROW) Edge.bad("31 kinds(1, " + r + ")", y, () -> y.kinds(1, r));
        Edge.finds("31 kinds(0, 4): UNLIKE, though not its own", y, () -> y.kinds(0, 4), Edge.UNLIKE);
        Due.is("31 the last BEAR", y.row(0, 0) + y.kinds(1, 0), 63);
    }

    private static void truthsAre(String why, BearWitness x, int sets, int least) {
        Edge.tells("28 " + why, x, () -> x.truths(0), 1, least);
        Due.is("28 " + why + ": upper()", x.upper(), sets);
        Due.is("28 " + why + ": lower()", x.lower(), 1);
    }

    // 28 "told by upper() (lower() is 1); the least by asked()": from all 64 to one alone.
    private static void truthsNumbers() {
        BearWitness x = Due.court("k00 b2063 g0063 m2563");
        x.odds(0, 6);
        Due.is("28 lower() before", x.lower() == 1 ? 1 : 0, 0);
        Due.row(x, 0);
        truthsAre("no pairs", x, 64, 0);
        Due.row(x, 0, 0, 1);
        truthsAre("one pair", x, 32, 1);
        Due.row(x, 0, 5, 1);
        truthsAre("one pair, the last THING", x, 32, 32);
        Due.row(x, 0, 0, 0, 1, 0, 2, 0, 3, 0, 4, 0, 5, 0);
        truthsAre("none DONE", x, 1, 0);
        Due.row(x, 0, 0, 1, 1, 1, 2, 1, 3, 1, 4, 1, 5, 1);
        truthsAre("all DONE", x, 1, 63);
        Due.row(x, 0, 16, 0, 17, 0, 18, 0, 19, 0, 20, 0, 21, 0);
        truthsAre("all DONE, the other way round", x, 1, 63);
        Due.row(x, 0, 0, 1, 0, 1, 0, 1, 0, 1, 0, 1, 0, 1, 0, 1, 0, 1);
        truthsAre("eight times the same", x, 32, 1);
        Due.row(x, 0, 8, 1, 9, 1, 10, 1);
        truthsAre("of ROYAL ones nothing is known", x, 64, 0);
    }

    // 28 "the least by asked() (bits; NONE): 1."
    private static void truthsNone() {
        BearWitness x = Due.court("k00 b2063 g0063 m2563 b2000");
        int[][] none = {{8, 0}, {0, 2}, {24, 1}, {24, 0}, {0, 1, 0, 0}, {0, 1, 16, 1}, {8, 2}, {5, 1, 0, 0, 5, 0}};
        for (int[] pairs : none) {
            x.odds(0, 6);
            Due.row(x, 0, pairs);
            truthsAre("none of " + pairs[0], x, 0, Edge.NONE);
        }
    }

    // 28 what each answer of each sort of BEAR leaves.
    private static void truthsEachAnswer() {
        BearWitness x = Due.court("k21 b2001 m2501 g0001 b2000 l2901 r2301");
        int[][] due = {
            {0, 1, 32, 1}, {0, 0, 32, 0}, {0, 2, 0, Edge.NONE}, {8, 1, 32, 0}, {8, 0, 32, 1}, {8, 2, 0, Edge.NONE},
            {16, 1, 64, 0}, {16, 0, 0, Edge.NONE}, {16, 2, 0, Edge.NONE}, {24, 2, 64, 0}, {24, 1, 0, Edge.NONE},
            {32, 2, 64, 0}, {32, 0, 0, Edge.NONE}, {40, 2, 64, 0}, {40, 1, 0, Edge.NONE}
        };
        for (int[] d : due) {
            Due.row(x, 0, d[0], d[1]);
            truthsAre("of " + d[0] + ", " + d[1], x, d[2], d[3]);
        }
        x.turn(0);
        Due.row(x, 0, 0, 2);
        truthsAre("face to the WALL, nothing", x, 64, 0);
        Due.row(x, 0, 0, 1);
        truthsAre("face to the WALL, 1", x, 0, Edge.NONE);
    }

    // 28, 29 each set of THINGS, told of in full: that one alone.
    private static void truthsEachSet() {
        for (int set = 0; set < 64; set++) {
            BearWitness x = Due.court("k00 b2063");
            x.row(0, 12);
            for (int thing = 0; thing < 6; thing++) {
                x.lay(0, 2 * thing, thing);
                x.lay(0, 2 * thing + 1, set >> thing & 1);
            }
            truthsAre("the set " + set, x, 1, set);
            Edge.tells("29 the set " + set, x, () -> x.sure(0), set, 63 & ~set);
            Edge.tells("30 the set " + set, x, () -> x.next(0), 0, 1);
            x.lay(0, 2, 0);
            x.lay(0, 3, set & 1);
            truthsAre("all but THING 1 of " + set, x, 2, set & ~2);
            Edge.tells("29 all but THING 1 of " + set, x, () -> x.sure(0), set & ~2, 61 & ~set);
            Edge.tells("30 all but THING 1 of " + set, x, () -> x.next(0), 1, 1);
        }
    }

    // 29 "DONE in each such set; those in none by asked() (all of both, if there is no set)".
    private static void sureEdges() {
        BearWitness x = Due.court("k00 b2063 g0063 m2563");
        int[][] with = {{}, {0, 1}, {0, 0}, {5, 1}, {5, 0}, {0, 1, 5, 0}, {8, 1}, {8, 0}, {0, 2}, {16, 0}, {21, 1}, {0, 1, 0, 0}};
        int[][] due = {
            {0, 0}, {1, 0}, {0, 1}, {32, 0}, {0, 32}, {1, 32}, {0, 0}, {63, 63}, {63, 63}, {1, 0}, {0, 32}, {63, 63}
        };
        for (int d = 0; d < with.length; d++) {
            Due.row(x, 0, with[d]);
            Edge.tells("29 sure(0), case " + d, x, () -> x.sure(0), due[d][0], due[d][1]);
        }
        Due.is("29 upper() stays", x.upper(), 0);
    }

    private static void nextIs(String s, int want, int part, int... pairs) {
        BearWitness x = Due.court(s);
        Due.row(x, 0, pairs);
        Edge.tells("30 next(0) of \"" + s + "\"", x, () -> x.next(0), want, part);
    }

    // 30 "8 times and; the first", "the greatest part .. is least; that part by asked()".
    private static void nextParts() {
        nextIs("k00 b2001", 0, 32);
        nextIs("k00 b2032", 5, 32);
        nextIs("k00 b2000", 0, 64);
        nextIs("k00 g0063", 0, 64);
        nextIs("k00 b2963 b2001", 8, 32);
        nextIs("k00 b2000 b2000 b2000 b2000 b2000 b2032", 45, 32);
        nextIs("k00 g0063 m2563", 8, 32);
        nextIs("k00 m2563", 0, 32);
        nextIs("k00 b2003", 1, 16, 0, 1);
        nextIs("k00 b2003 b2004", 10, 8, 0, 1, 1, 0);
        nextIs("k00 b2001", 0, 32, 0, 1);
        nextIs("k00 b2001 b2001", 0, 32, 0, 1);
        nextIs("k00 b2063", 0, 1, 0, 1, 1, 1, 2, 1, 3, 1, 4, 1, 5, 1);
        nextIs("k00 b2063", 5, 1, 0, 1, 1, 1, 2, 1, 3, 1, 4, 1);
        BearWitness x = Due.court("k00 b2001 b2002");
        x.turn(0);
        x.row(0, 0);
        Edge.tells("30 a face to the WALL", x, () -> x.next(0), 9, 32);
        x.turn(1);
        Edge.tells("30 all faces to the WALL", x, () -> x.next(0), 0, 64);
    }

    // 30 "NONE: there is no set."
    private static void nextNone() {
        BearWitness x = Due.court("k00 b2001 g0001");
        x.odds(0, 6);
        int[][] none = {{0, 2}, {8, 0}, {0, 1, 0, 0}, {1, 1}};
        for (int[] pairs : none) {
            Due.row(x, 0, pairs);
            x.bear(0, 1);
            Edge.refused("30 NONE of " + pairs[0], x, () -> x.next(0), Edge.NONE);
        }
    }

    private static void kindsAre(String s, int i, int want, int... pairs) {
        BearWitness x = Due.court(s);
        Due.row(x, 0, pairs);
        x.bear(0, 3);
        Edge.refused("31 kinds(" + i + ", 0) of \"" + s + "\"", x, () -> x.kinds(i, 0), want);
    }

    // 31 "by those of these that are its own": KINDS 0 BEAR, 1 LOVED, 2 PANDA, 3 MOTHY, 4 ROYAL, 5 RICH.
    private static void kindsOfItsOwn() {
        kindsAre("k01 b2001", 0, 63);
        kindsAre("k01 b2001 b2001", 0, 63, 8, 0);
        kindsAre("k01 b2001 b2001", 1, 0, 8, 0);
        kindsAre("k01 b2001 b2001", 1, 63, 0, 2);
        kindsAre("k01 b2001", 0, 63, 0, 1);
        kindsAre("k00 b2001", 0, 47, 0, 0);
        kindsAre("k00 b2001", 0, 16, 0, 1);
        kindsAre("k00 b2001", 0, 4, 1, 0);
        kindsAre("k00 b2001", 0, 59, 1, 2);
        kindsAre("k00 b2001", 0, 4, 0, 0, 1, 0);
        kindsAre("k00 b2001", 0, 43, 0, 0, 1, 2);
        kindsAre("k00 b2001", 0, 0, 0, 1, 0, 0);
    }

    // 31 "all else as it is": what was DONE, EYES, WEAR, VIEW, the WALL.
    private static void kindsAllElseAsItIs() {
        kindsAre("k00 b2263", 0, 47, 0, 0);
        kindsAre("k00 b2363", 0, 15, 0, 0);
        kindsAre("k00 b2363", 0, 32, 0, 2);
        kindsAre("k00 b2463", 0, 16, 0, 1);
        kindsAre("k00 b2563", 0, 24, 0, 1);
        kindsAre("k00 b2563", 0, 7, 0, 0);
        kindsAre("k01 b2563", 0, 23, 0, 1);
        kindsAre("k01 b2563", 0, 8, 0, 0);
        kindsAre("k00 b2863", 0, 24, 0, 1);
        kindsAre("k00 b2963", 0, 63, 0, 2);
        kindsAre("k00 b1063", 0, 2, 1, 0);
        kindsAre("k00 b1063", 0, 16, 1, 1);
        kindsAre("k00 b1063", 0, 45, 1, 2);
        kindsAre("k00 b0063", 0, 45, 0, 2);
        kindsAre("k00 b1002", 0, 4, 2, 0);
        kindsAre("k00 b1001", 0, 63, 1, 2);
        for (char letter : "blpmgr".toCharArray()) kindsAre("k00 " + letter + "2563", 0, 8 + 16, 0, 1);
        BearWitness x = Due.court("k00 b2063");
        x.turn(0);
        Due.row(x, 0, 0, 2);
        Due.is("31 face to the WALL, nothing", x.kinds(0, 0), 63);
        Due.row(x, 0, 0, 0);
        Due.is("31 face to the WALL, 0", x.kinds(0, 0), 0);
    }

    // 31 none of them: an empty set, no refusal.
    private static void kindsNone() {
        kindsAre("k00 b2963", 0, 0, 0, 1);
        kindsAre("k00 b2000", 0, 0, 0, 1);
        kindsAre("k01 b2401", 0, 0, 0, 0);
        kindsAre("k01 b2201", 0, 0, 0, 2);
    }

    private static void wallsAre(String s, int must, int cannot, int... pairs) {
        BearWitness x = Due.court(s);
        Due.row(x, 0, pairs);
        Edge.tells("32 walls(0) of \"" + s + "\"", x, () -> x.walls(0), must, cannot);
        Due.is("32 no face is TURNED by it", x.count(3), 0);
    }

    // 32 "each of which TOLD nothing of all asked of it, and would have TOLD something".
    private static void wallsMust() {
        wallsAre("k01 b2001", 0, 0);
        wallsAre("k01 b2001", 1, 0, 0, 2);
        wallsAre("k01 b2001", 0, 0, 1, 2);
        wallsAre("k01 b2001", 1, 0, 1, 2, 0, 2);
        wallsAre("k01 b2001", 1, 0, 0, 2, 1, 2);
        wallsAre("k01 b2001", 0, 1, 0, 2, 0, 1);
        wallsAre("k01 b2001", 0, 1, 0, 1, 0, 2);
        wallsAre("k01 b2003", 0, 1, 0, 2, 1, 0);
        wallsAre("k01 b2001 b2001", 2, 0, 8, 2);
        wallsAre("k01 b2001 b2001", 2, 1, 8, 2, 0, 1);
        wallsAre("k01 b2901", 0, 0, 0, 2);
        wallsAre("k01 b0001", 0, 0, 0, 2);
        wallsAre("k01 l0001", 1, 0, 0, 2);
        wallsAre("k01 b1002", 0, 0, 1, 2);
        wallsAre("k01 p2001", 1, 0, 1, 2);
        wallsAre("k01 r2301", 0, 0, 0, 2);
        wallsAre("k01 r2201", 1, 0, 0, 2);
        wallsAre("k00 m2501 g0001", 3, 0, 0, 2, 8, 2);
        wallsAre("k63 b2001 b2002 b2004 b2008 b2016 b2032", 63, 0, 0, 2, 9, 2, 18, 2, 27, 2, 36, 2, 45, 2);
    }

    // 32 "those whose can't by asked()": who TOLD something.
    private static void wallsCannot() {
        wallsAre("k01 b2001", 0, 1, 0, 1);
        wallsAre("k01 b2001", 0, 1, 0, 0);
        wallsAre("k00 b2001", 0, 1, 0, 0);
        wallsAre("k01 b2001", 0, 1, 5, 1);
        wallsAre("k63 b2001 b2001 b2001 b2001 b2001 b2001", 0, 63, 0, 1, 8, 1, 16, 1, 24, 1, 32, 1, 40, 1);
        wallsAre("k63 b2001 b2001 b2001 b2001 b2001 b2001", 0, 33, 0, 1, 40, 0);
    }

    // 32 "all else as it is": the WALL is what is asked, as it is now it counts for nothing.
    private static void wallsAllElseAsItIs() {
        BearWitness x = Due.court("k01 b2001 b2001");
        x.turn(0);
        Due.row(x, 0, 0, 2, 8, 2);
        Edge.tells("32 one face to the WALL", x, () -> x.walls(0), 3, 0);
        Due.row(x, 0, 0, 1, 8, 1);
        Edge.tells("32 one face to the WALL, both TOLD", x, () -> x.walls(0), 0, 3);
        Due.row(x, 0, 1, 2, 8, 1);
        Edge.tells("32 one face to the WALL, SEES it not", x, () -> x.walls(0), 0, 2);
    }
}
