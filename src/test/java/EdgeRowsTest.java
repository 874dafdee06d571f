/** The edges that promises 1 to 7 name, sentence by sentence. */
public final class EdgeRowsTest {
    private static final int[] NO_ROW = {-1, 6, 7, 40, Edge.MIN, Edge.MAX};
    private static final int[] ONES = new int[40];

    public static void main(String[] args) {
        newObject();
        rowSizes();
        rowAnew();
        rowRefused();
        layPlaces();
        layValues();
        layRefused();
        atPlaces();
        atRefused();
        tear();
        copyOfNone();
        copyAsIfTakenAhead();
        copyWhole();
        copyBeyond();
        copyInThisOrder();
        rowOfSix();
        layOfSix();
        copyOfSix();
        meanCut();
        meanOfGreat();
        meanRefused();
        Due.end("EdgeRowsTest");
    }

    // 1 "No ROWS, TEXTS, BEARS." Terms: "or missing (at first)", "without BEARS at first".
    private static void newObject() {
        BearWitness x = new BearWitness();
        for (int r = 0; r < 6; r++) {
            int row = r;
            Edge.finds("1 at(" + r + ", 0), new", x, () -> x.at(row, 0), Edge.NOTHING);
        }
        for (int t = 0; t < 4; t++) {
            int text = t;
            Edge.finds("1 put(" + t + ", 0, 0), new", x, () -> x.put(text, 0, 0), Edge.NOTHING);
        }
        BearWitness y = new BearWitness();
        for (int k = 0; k < 3; k++) {
            int place = k;
            Edge.finds("1 on(" + k + "), new", y, () -> y.on(place), Edge.NOTHING);
        }
        Edge.bad("1 bear(0, 0), new", y, () -> y.bear(0, 0));
        Edge.refused("1 shown(0), new", y, () -> y.shown(0), Edge.STATE);
        for (int what = 0; what < 12; what++) Due.is("1 count(" + what + "), new", y.count(what), 0);
    }

    // Terms: "ROWS 0 .. 5 are rows of 0 to 40 ints". 2 "A ROW is there with n ints 0: n."
    private static void rowSizes() {
        for (int n : new int[] {0, 1, 39, 40}) {
            BearWitness x = new BearWitness();
            for (int r = 0; r < 6; r++) Due.is("2 row(" + r + ", " + n + ")", x.row(r, n), n);
            Due.is("2 ROWS of " + n, x.count(9), 6);
            Edge.rowIs("2 row(0, " + n + ")", x, 0, new int[n]);
            Edge.rowIs("2 row(5, " + n + ")", x, 5, new int[n]);
        }
    }

    // 2 "with n ints 0": also where others were before.
    private static void rowAnew() {
        BearWitness x = new BearWitness();
        x.row(3, 40);
        for (int i = 0; i < 40; i++) x.lay(3, i, i + 1);
        Due.is("2 anew, as great", x.row(3, 40), 40);
        Edge.rowIs("2 anew, as great", x, 3, new int[40]);
        for (int i = 0; i < 40; i++) x.lay(3, i, i + 1);
        Due.is("2 anew, smaller", x.row(3, 2), 2);
        Edge.rowIs("2 anew, smaller", x, 3, 0, 0);
        Due.is("2 anew, full", x.row(3, 40), 40);
        Edge.rowIs("2 anew, full", x, 3, new int[40]);
        x.lay(3, 39, 5);
        Due.is("2 anew, empty", x.row(3, 0), 0);
        Edge.rowIs("2 anew, empty", x, 3);
        Due.is("2 anew, full again", x.row(3, 40), 40);
        x.at(3, 39);
        Due.is("2 anew, its last int", x.asked(), 0);
    }

    // 2 "BAD: also n above 40; SIZE: below 0." (BAD ahead of a FINDING.)
    private static void rowRefused() {
        for (int r : NO_ROW) {
            BearWitness x = new BearWitness();
            Edge.bad("2 row(" + r + ", 0)", x, () -> x.row(r, 0));
            Edge.bad("2 row(" + r + ", 40)", x, () -> x.row(r, 40));
            Edge.bad("2 row(" + r + ", 41)", x, () -> x.row(r, 41));
            Edge.bad("2 row(" + r + ", -1): ahead of SIZE", x, () -> x.row(r, -1));
        }
        BearWitness x = new BearWitness();
        Due.row(x, 2, 7, 8);
        Due.row(x, 5, 9);
        for (int n : new int[] {41, 42, 60, 100, Edge.MAX}) {
            Edge.bad("2 row(2, " + n + ")", x, () -> x.row(2, n));
            Edge.bad("2 row(0, " + n + ")", x, () -> x.row(0, n));
        }
        BearWitness y = new BearWitness();
        Due.row(y, 2, 7, 8);
        for (int n : new int[] {-1, -2, -40, Edge.MIN}) {
            Edge.finds("2 row(2, " + n + ")", y, () -> y.row(2, n), Edge.SIZE);
            Edge.finds("2 row(0, " + n + ")", y, () -> y.row(0, n), Edge.SIZE);
        }
        Edge.rowIs("2 refused: the ROW stays", x, 2, 7, 8);
        Edge.rowIs("2 refused: the ROW stays", y, 2, 7, 8);
    }

    // 3 "Place i of a ROW is v": the first, the last, that of a ROW of one.
    private static void layPlaces() {
        BearWitness x = new BearWitness();
        x.row(0, 40);
        x.row(5, 1);
        Edge.tells("3 lay(0, 0, 1)", x, () -> x.lay(0, 0, 1), 1, 0);
        Edge.tells("3 lay(0, 39, 2)", x, () -> x.lay(0, 39, 2), 1, 0);
        Edge.tells("3 lay(5, 0, 3)", x, () -> x.lay(5, 0, 3), 1, 0);
        Edge.tells("3 lay(0, 0, 4)", x, () -> x.lay(0, 0, 4), 1, 1);
        int[] due = new int[40];
        due[0] = 4;
        due[39] = 2;
        Edge.rowIs("3 laid", x, 0, due);
        Edge.rowIs("3 laid", x, 5, 3);
    }

    // 3 "what it was, told by asked()": a ROW is of ints, the least and the greatest too.
    private static void layValues() {
        BearWitness x = new BearWitness();
        x.row(4, 3);
        int was = 0;
        for (int v : new int[] {Edge.MIN, Edge.MAX, -1, 0, 1, -9, Edge.MIN, Edge.MIN}) {
            int before = was;
            Edge.tells("3 lay(4, 1, " + v + ")", x, () -> x.lay(4, 1, v), 1, before);
            Edge.tells("4 at(4, 1) of " + v, x, () -> x.at(4, 1), 1, v);
            was = v;
        }
    }

    // 3 "BAD; NOTHING; BEYOND."
    private static void layRefused() {
        BearWitness x = new BearWitness();
        x.row(1, 3);
        x.row(2, 0);
        x.lay(1, 0, 5);
        x.lay(1, 0, 6);
        for (int i : new int[] {-1, 3, 39, 40, Edge.MIN, Edge.MAX}) {
            Edge.finds("3 lay(1, " + i + ", 9)", x, () -> x.lay(1, i, 9), Edge.BEYOND);
        }
        Edge.finds("3 lay(2, 0, 9), no places", x, () -> x.lay(2, 0, 9), Edge.BEYOND);
        Edge.finds("3 lay(3, 0, 9), missing", x, () -> x.lay(3, 0, 9), Edge.NOTHING);
        Edge.finds("3 lay(3, -1, 9): NOTHING ahead of BEYOND", x, () -> x.lay(3, -1, 9), Edge.NOTHING);
        Edge.finds("3 lay(3, 40, 9): NOTHING ahead of BEYOND", x, () -> x.lay(3, 40, 9), Edge.NOTHING);
        BearWitness y = new BearWitness();
        for (int r : NO_ROW) {
            Edge.bad("3 lay(" + r + ", 0, 9)", y, () -> y.lay(r, 0, 9));
            Edge.bad("3 lay(" + r + ", -1, 9)", y, () -> y.lay(r, -1, 9));
        }
    }

    // 4 "Place i of a ROW, told by asked(): 1."
    private static void atPlaces() {
        BearWitness x = new BearWitness();
        Due.row(x, 0, 3, 4, 5);
        Due.row(x, 5, -6);
        Edge.tells("4 at(0, 0)", x, () -> x.at(0, 0), 1, 3);
        Edge.tells("4 at(0, 2)", x, () -> x.at(0, 2), 1, 5);
        Edge.tells("4 at(5, 0)", x, () -> x.at(5, 0), 1, -6);
    }

    // 4 "BAD; NOTHING; BEYOND."
    private static void atRefused() {
        BearWitness x = new BearWitness();
        Due.row(x, 1, 7, 8, 9);
        x.row(2, 0);
        x.at(1, 2);
        for (int i : new int[] {-1, 3, 39, 40, Edge.MIN, Edge.MAX}) {
            Edge.finds("4 at(1, " + i + ")", x, () -> x.at(1, i), Edge.BEYOND);
        }
        Edge.finds("4 at(2, 0), no places", x, () -> x.at(2, 0), Edge.BEYOND);
        Edge.finds("4 at(0, 0), missing", x, () -> x.at(0, 0), Edge.NOTHING);
        Edge.finds("4 at(0, -1): NOTHING ahead of BEYOND", x, () -> x.at(0, -1), Edge.NOTHING);
        Edge.finds("4 at(0, 40): NOTHING ahead of BEYOND", x, () -> x.at(0, 40), Edge.NOTHING);
        BearWitness y = new BearWitness();
        for (int r : NO_ROW) {
            Edge.bad("4 at(" + r + ", 0)", y, () -> y.at(r, 0));
            Edge.bad("4 at(" + r + ", -1)", y, () -> y.at(r, -1));
        }
    }

    // 5 "A ROW is missing: 1. BAD; NOTHING."
    private static void tear() {
        BearWitness x = new BearWitness();
        x.row(0, 0);
        Due.row(x, 5, 4, 5);
        Due.row(x, 1, 6);
        Due.is("5 tear(0), of no places", x.tear(0), 1);
        Due.is("5 tear(5)", x.tear(5), 1);
        Due.is("5 the others stay", x.count(9), 1);
        Edge.finds("5 tear(0) again", x, () -> x.tear(0), Edge.NOTHING);
        Edge.finds("5 at(5, 0): missing", x, () -> x.at(5, 0), Edge.NOTHING);
        Edge.finds("5 lay(5, 0, 1): missing", x, () -> x.lay(5, 0, 1), Edge.NOTHING);
        Edge.finds("5 mean(5): missing", x, () -> x.mean(5), Edge.NOTHING);
        Due.is("5 there again", x.row(5, 2), 2);
        Edge.rowIs("5 there again", x, 5, 0, 0);
        Edge.rowIs("5 the others stay", x, 1, 6);
        BearWitness y = new BearWitness();
        for (int r : NO_ROW) Edge.bad("5 tear(" + r + ")", y, () -> y.tear(r));
        for (int r = 0; r < 6; r++) {
            int row = r;
            Edge.finds("5 tear(" + r + "), new", y, () -> y.tear(row), Edge.NOTHING);
        }
    }

    // 6 "with n 0, too, if i or j is below 0 or above the size": at the size itself it is none.
    private static void copyOfNone() {
        BearWitness x = new BearWitness();
        Due.row(x, 0, 1, 2, 3);
        Due.row(x, 1, 4, 5);
        x.row(2, 0);
        for (int i = 0; i <= 3; i++) {
            for (int j = 0; j <= 2; j++) {
                Due.is("6 copy(0, " + i + ", 1, " + j + ", 0)", x.copy(0, i, 1, j, 0), 1);
            }
        }
        Due.is("6 copy(2, 0, 2, 0, 0)", x.copy(2, 0, 2, 0, 0), 1);
        Due.is("6 copy(2, 0, 0, 3, 0)", x.copy(2, 0, 0, 3, 0), 1);
        Edge.rowIs("6 of none", x, 0, 1, 2, 3);
        Edge.rowIs("6 of none", x, 1, 4, 5);
        BearWitness y = new BearWitness();
        Due.row(y, 0, 1, 2, 3);
        Due.row(y, 1, 4, 5);
        for (int i : new int[] {-1, 4, 40, Edge.MIN, Edge.MAX}) {
            Edge.finds("6 copy(0, " + i + ", 1, 0, 0)", y, () -> y.copy(0, i, 1, 0, 0), Edge.BEYOND);
        }
        for (int j : new int[] {-1, 3, 40, Edge.MIN, Edge.MAX}) {
            Edge.finds("6 copy(0, 0, 1, " + j + ", 0)", y, () -> y.copy(0, 0, 1, j, 0), Edge.BEYOND);
        }
    }

    // 6 "to those of another one (perhaps itself) from one on, as if taken ahead": each i, j, n of a ROW of five.
    private static void copyAsIfTakenAhead() {
        for (int n = 0; n <= 5; n++) {
            for (int i = 0; i + n <= 5; i++) {
                for (int j = 0; j + n <= 5; j++) {
                    BearWitness x = new BearWitness();
                    Due.row(x, 4, 10, 11, 12, 13, 14);
                    int[] due = {10, 11, 12, 13, 14};
                    for (int d = 0; d < n; d++) due[j + d] = 10 + i + d;
                    String call = "6 copy(4, " + i + ", 4, " + j + ", " + n + ")";
                    Due.is(call, x.copy(4, i, 4, j, n), 1);
                    Edge.rowIs(call, x, 4, due);
                }
            }
        }
    }

    // 6 a full ROW, all its places, from the first ROW to the last one.
    private static void copyWhole() {
        BearWitness x = new BearWitness();
        x.row(0, 40);
        x.row(5, 40);
        int[] due = new int[40];
        for (int i = 0; i < 40; i++) {
            due[i] = Edge.MAX - i;
            x.lay(0, i, due[i]);
        }
        Edge.tells("6 copy(0, 0, 5, 0, 40)", x, () -> x.copy(0, 0, 5, 0, 40), 1, 0);
        Edge.rowIs("6 copy(0, 0, 5, 0, 40)", x, 5, due);
        Edge.finds("6 copy(0, 0, 5, 0, 41)", x, () -> x.copy(0, 0, 5, 0, 41), Edge.BEYOND);
    }

    // 6 "BEYOND: not so many there": from the one, or to the other.
    private static void copyBeyond() {
        int[][] with = {
            {0, 0, 1, 0, 3}, {0, 1, 1, 0, 4}, {0, 4, 1, 0, 1}, {0, 3, 1, 0, 2}, {0, 0, 1, 1, 2}, {0, 0, 1, 2, 1},
            {1, 0, 0, 0, 3}, {1, 1, 0, 0, 2}, {1, 2, 0, 0, 1}, {0, -1, 1, 0, 1}, {0, 0, 1, -1, 1}, {0, -1, 1, 0, 2},
            {0, 1, 1, 1, Edge.MAX}, {0, Edge.MAX, 1, 0, 1}, {0, 0, 1, Edge.MAX, 1}, {0, Edge.MAX, 1, Edge.MAX, Edge.MAX},
            {0, Edge.MIN, 1, 0, 1}, {0, 0, 1, Edge.MIN, 1}, {0, Edge.MIN, 1, Edge.MIN, Edge.MAX}, {0, 0, 0, 1, 4}
        };
        BearWitness x = new BearWitness();
        Due.row(x, 0, 1, 2, 3, 4);
        Due.row(x, 1, 5, 6);
        for (int[] w : with) {
            String call = "6 copy(" + w[0] + ", " + w[1] + ", " + w[2] + ", " + w[3] + ", " + w[4] + ")";
            Edge.finds(call, x, () -> x.copy(w[0], w[1], w[2], w[3], w[4]), Edge.BEYOND);
        }
    }

    // 6 "BAD; SIZE: n below 0; NOTHING: either; BEYOND .. (In this order.)"
    private static void copyInThisOrder() {
        BearWitness x = new BearWitness();
        Due.row(x, 0, 1, 2, 3);
        Due.row(x, 1, 4, 5);
        for (int r : new int[] {-1, 6, Edge.MIN, Edge.MAX}) {
            Edge.bad("6 copy(" + r + ", 0, 1, 0, -1): ahead of SIZE", x, () -> x.copy(r, 0, 1, 0, -1));
            Edge.bad("6 copy(0, 0, " + r + ", 0, -1): ahead of SIZE", x, () -> x.copy(0, 0, r, 0, -1));
            Edge.bad("6 copy(" + r + ", 0, 2, 0, 1): ahead of NOTHING", x, () -> x.copy(r, 0, 2, 0, 1));
            Edge.bad("6 copy(2, 0, " + r + ", 0, 1): ahead of NOTHING", x, () -> x.copy(2, 0, r, 0, 1));
        }
        BearWitness y = new BearWitness();
        Due.row(y, 0, 1, 2, 3);
        Due.row(y, 1, 4, 5);
        Edge.bad("6 copy(6, 0, 1, 9, 1): ahead of BEYOND", y, () -> y.copy(6, 0, 1, 9, 1));
        Edge.bad("6 copy(0, 9, -1, 0, 1): ahead of BEYOND", y, () -> y.copy(0, 9, -1, 0, 1));
        Edge.finds("6 copy(2, 0, 1, 0, -1): SIZE ahead of NOTHING", y, () -> y.copy(2, 0, 1, 0, -1), Edge.SIZE);
        Edge.finds("6 copy(0, 0, 2, 0, -1): SIZE ahead of NOTHING", y, () -> y.copy(0, 0, 2, 0, -1), Edge.SIZE);
        Edge.finds("6 copy(0, 9, 1, 0, -1): SIZE ahead of BEYOND", y, () -> y.copy(0, 9, 1, 0, -1), Edge.SIZE);
        Edge.finds("6 copy(0, 1, 1, 0, -1)", y, () -> y.copy(0, 1, 1, 0, -1), Edge.SIZE);
        Edge.finds("6 copy(0, 1, 1, 0, MIN)", y, () -> y.copy(0, 1, 1, 0, Edge.MIN), Edge.SIZE);
        Edge.finds("6 copy(2, 0, 1, 9, 1): NOTHING ahead of BEYOND", y, () -> y.copy(2, 0, 1, 9, 1), Edge.NOTHING);
        Edge.finds("6 copy(0, 9, 2, 0, 1): NOTHING ahead of BEYOND", y, () -> y.copy(0, 9, 2, 0, 1), Edge.NOTHING);
        Edge.finds("6 copy(2, 0, 1, 0, 0), of none", y, () -> y.copy(2, 0, 1, 0, 0), Edge.NOTHING);
        Edge.finds("6 copy(0, 0, 2, 0, 0), of none", y, () -> y.copy(0, 0, 2, 0, 0), Edge.NOTHING);
        Edge.finds("6 copy(2, 0, 3, 0, 1), both", y, () -> y.copy(2, 0, 3, 0, 1), Edge.NOTHING);
    }

    // 2, 5 "A ROW is there", "A ROW is missing": the other five, all of them full, stay.
    private static void rowOfSix() {
        int[][] none = new int[4][];
        for (int r = 0; r < 6; r++) {
            int[][] rows = new int[6][];
            BearWitness x = Edge.fullRows(rows);
            Edge.holds("3 six full ROWS", x, rows, none);
            for (int n : new int[] {40, 39, 1, 0, 40}) {
                Due.is("2 row(" + r + ", " + n + ") of six", x.row(r, n), n);
                rows[r] = new int[n];
                Edge.holds("2 row(" + r + ", " + n + ") of six", x, rows, none);
            }
            Due.is("5 tear(" + r + ") of six", x.tear(r), 1);
            rows[r] = null;
            Edge.holds("5 tear(" + r + ") of six", x, rows, none);
        }
    }

    // 3 "Place i of a ROW is v": no other place of any ROW.
    private static void layOfSix() {
        int[][] none = new int[4][];
        int[][] rows = new int[6][];
        BearWitness x = Edge.fullRows(rows);
        for (int r = 0; r < 6; r++) {
            for (int i : new int[] {0, 1, 20, 38, 39}) {
                int was = rows[r][i];
                int row = r;
                Edge.tells("3 lay(" + r + ", " + i + ", 5) of six", x, () -> x.lay(row, i, 5), 1, was);
                rows[r][i] = 5;
                Edge.holds("3 lay(" + r + ", " + i + ", 5) of six", x, rows, none);
            }
        }
    }

    // 6 "n places of a ROW .. come to those of another one": from each to each, at the beginnings and the ends.
    private static void copyOfSix() {
        int[][] none = new int[4][];
        int[][] pieces = {{0, 0, 40}, {39, 0, 1}, {0, 39, 1}, {39, 39, 1}, {10, 20, 20}, {1, 0, 39}, {0, 1, 39}};
        for (int r = 0; r < 6; r++) {
            for (int[] piece : pieces) {
                int[][] rows = new int[6][];
                BearWitness x = Edge.fullRows(rows);
                for (int to = 5; to >= 0; to--) {
                    String call = "6 copy(" + r + ", " + piece[0] + ", " + to + ", " + piece[1] + ", " + piece[2] + ") of six";
                    Due.is(call, x.copy(r, piece[0], to, piece[1], piece[2]), 1);
                    int[] taken = rows[r].clone();
                    for (int d = 0; d < piece[2]; d++) rows[to][piece[1] + d] = taken[piece[0] + d];
                    Edge.holds(call, x, rows, none);
                }
            }
        }
    }

    private static void meanIs(int want, int... v) {
        BearWitness x = new BearWitness();
        Due.row(x, 5, v);
        Edge.tells("7 mean of " + v.length + " ints, due " + want, x, () -> x.mean(5), 1, want);
    }

    // 7 "The mean of a ROW's ints, cut"
    private static void meanCut() {
        meanIs(0, 0);
        meanIs(-1, -1);
        meanIs(0, 1, 0);
        meanIs(0, -1, 0);
        meanIs(1, 1, 2);
        meanIs(-1, -1, -2);
        meanIs(1, 2, 2, 1);
        meanIs(-1, -2, -2, -1);
        meanIs(2, 2, 2, 2);
        meanIs(-2, -2, -2, -2);
        int[] forty = ONES.clone();
        for (int i = 0; i < 39; i++) forty[i] = 1;
        meanIs(0, forty);
        forty[39] = 1;
        meanIs(1, forty);
        forty[0] = -80;
        meanIs(-1, forty);
        forty[0] = -78;
        meanIs(0, forty);
    }

    // 7 ints of which no int could hold the sum.
    private static void meanOfGreat() {
        int[] great = ONES.clone();
        int[] low = ONES.clone();
        for (int i = 0; i < 40; i++) {
            great[i] = Edge.MAX;
            low[i] = Edge.MIN;
        }
        meanIs(Edge.MAX, great);
        meanIs(Edge.MIN, low);
        meanIs(Edge.MAX, Edge.MAX, Edge.MAX);
        meanIs(Edge.MIN, Edge.MIN);
        meanIs(0, Edge.MAX, Edge.MIN);
        meanIs(-1, Edge.MIN, Edge.MAX, -2);
        meanIs(1073741823, Edge.MAX, 0);
        meanIs(-1073741824, Edge.MIN, 0);
    }

    // 7 "BAD; NOTHING; NOUGHT." (NOUGHT: "shared among none")
    private static void meanRefused() {
        BearWitness x = new BearWitness();
        Due.row(x, 1, 9, 9);
        x.mean(1);
        x.row(0, 0);
        x.row(5, 0);
        for (int r : NO_ROW) Edge.bad("7 mean(" + r + ")", x, () -> x.mean(r));
        Edge.finds("7 mean(2), missing", x, () -> x.mean(2), Edge.NOTHING);
        Edge.finds("7 mean(0), of none", x, () -> x.mean(0), Edge.NOUGHT);
        Edge.finds("7 mean(5), of none", x, () -> x.mean(5), Edge.NOUGHT);
    }
}
