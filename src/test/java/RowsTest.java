/** Promises 1 to 7: a new object, ROWS. */
public final class RowsTest {
    private static final int BIG = Integer.MAX_VALUE, LOW = Integer.MIN_VALUE;

    public static void main(String[] args) {
        newObject();
        row();
        lay();
        at();
        tear();
        copy();
        copyRefused();
        mean();
        Due.end("RowsTest");
    }

    private static void newObject() {
        BearWitness x = new BearWitness();
        for (int what = 0; what < 12; what++) Due.is("1 count(" + what + ")", x.count(what), 0);
        for (int r = 0; r < 6; r++) Due.finds("1 at(" + r + ", 0)", x, r, x.at(r, 0), 1);
        for (int t = 0; t < 4; t++) Due.finds("1 fault(" + t + ")", x, 6 + t, x.fault(t), 1);
        Due.is("1 bear(0, 0)", x.bear(0, 0), BearWitness.BAD);
    }

    private static void row() {
        BearWitness x = new BearWitness();
        Due.is("2 row(0, 40)", x.row(0, 40), 40);
        Due.is("2 row(5, 0)", x.row(5, 0), 0);
        Due.is("2 count(9)", x.count(9), 2);
        x.lay(0, 39, 7);
        Due.is("2 row(0, 40) anew", x.row(0, 40), 40);
        x.at(0, 39);
        Due.is("2 ints 0", x.asked(), 0);
        Due.is("2 row(0, 3) smaller", x.row(0, 3), 3);
        Due.finds("2 at(0, 3)", x, 0, x.at(0, 3), 2);
        Due.row(x, 1, 8);
        x.row(0, 40);
        x.at(1, 0);
        Due.is("2 other ROWS stay", x.asked(), 8);
        x.tear(1);
        Due.is("2 row(-1, 1)", x.row(-1, 1), BearWitness.BAD);
        Due.is("2 row(6, 1)", x.row(6, 1), BearWitness.BAD);
        Due.is("2 row(0, 41)", x.row(0, 41), BearWitness.BAD);
        Due.is("2 row(0, BIG)", x.row(0, BIG), BearWitness.BAD);
        Due.is("2 row(6, -1): BAD ahead", x.row(6, -1), BearWitness.BAD);
        Due.finds("2 row(0, -1)", x, 0, x.row(0, -1), 5);
        Due.finds("2 row(1, LOW)", x, 1, x.row(1, LOW), 5);
        Due.is("2 refused: the ROW stays", x.at(0, 2), 1);
        Due.is("2 refused: no ROW comes", x.count(9), 2);
    }

    private static void lay() {
        BearWitness x = new BearWitness();
        Due.finds("3 lay, missing", x, 0, x.lay(1, 99, 5), 1);
        x.row(1, 3);
        Due.is("3 lay(1, 2, LOW)", x.lay(1, 2, LOW), 1);
        Due.is("3 was 0", x.asked(), 0);
        Due.is("3 lay(1, 2, 9)", x.lay(1, 2, 9), 1);
        Due.is("3 was LOW", x.asked(), LOW);
        Due.finds("3 lay(1, 3, 1)", x, 0, x.lay(1, 3, 1), 2);
        Due.finds("3 lay(1, -1, 1)", x, 1, x.lay(1, -1, 1), 2);
        Due.is("3 lay(6, -1, 1)", x.lay(6, -1, 1), BearWitness.BAD);
        Due.is("3 lay(-1, 0, 1)", x.lay(-1, 0, 1), BearWitness.BAD);
        Due.is("3 asked() stays", x.asked(), LOW);
        x.at(1, 2);
        Due.is("3 laid", x.asked(), 9);
    }

    private static void at() {
        BearWitness x = new BearWitness();
        Due.row(x, 2, 4, 5, 6);
        Due.is("4 at(2, 1)", x.at(2, 1), 1);
        Due.is("4 asked()", x.asked(), 5);
        Due.finds("4 at(3, 0)", x, 0, x.at(3, 0), 1);
        Due.finds("4 at(2, 3)", x, 0, x.at(2, 3), 2);
        Due.finds("4 at(2, -1)", x, 1, x.at(2, -1), 2);
        Due.is("4 at(6, 0)", x.at(6, 0), BearWitness.BAD);
        Due.is("4 at(-1, 0)", x.at(-1, 0), BearWitness.BAD);
        Due.is("4 asked() stays", x.asked(), 5);
    }

    private static void tear() {
        BearWitness x = new BearWitness();
        x.row(4, 0);
        Due.is("5 tear(4)", x.tear(4), 1);
        Due.is("5 count(9)", x.count(9), 0);
        Due.finds("5 tear(4) again", x, 0, x.tear(4), 1);
        Due.is("5 tear(6)", x.tear(6), BearWitness.BAD);
        Due.is("5 tear(-1)", x.tear(-1), BearWitness.BAD);
    }

    private static void rowIs(String call, BearWitness x, int r, int... v) {
        for (int i = 0; i < v.length; i++) {
            x.at(r, i);
            Due.is(call + ", place " + i, x.asked(), v[i]);
        }
        Due.is(call + ", no more places", x.at(r, v.length), BearWitness.FINDING);
    }

    private static void copy() {
        BearWitness x = new BearWitness();
        Due.row(x, 0, 1, 2, 3, 4, 5);
        Due.row(x, 1, 6, 7);
        x.at(1, 1);
        Due.is("6 copy to itself, on", x.copy(0, 0, 0, 1, 4), 1);
        Due.is("6 asked() stays", x.asked(), 7);
        rowIs("6 copy to itself, on", x, 0, 1, 1, 2, 3, 4);
        Due.is("6 copy to itself, back", x.copy(0, 2, 0, 0, 3), 1);
        rowIs("6 copy to itself, back", x, 0, 2, 3, 4, 3, 4);
        Due.is("6 copy to another", x.copy(0, 3, 1, 0, 2), 1);
        rowIs("6 copy to another", x, 1, 3, 4);
        Due.is("6 copy of none at the ends", x.copy(0, 5, 1, 2, 0), 1);
        x.row(2, 0);
        Due.is("6 copy of none of an empty one", x.copy(2, 0, 2, 0, 0), 1);
        rowIs("6 none was copied", x, 1, 3, 4);
    }

    private static void copyRefused() {
        BearWitness x = new BearWitness();
        Due.row(x, 0, 1, 2, 3);
        Due.row(x, 1, 4, 5);
        Due.is("6 copy(6, ..) BAD ahead", x.copy(6, 0, 0, 0, -1), BearWitness.BAD);
        Due.is("6 copy(.., -1, ..) BAD ahead", x.copy(0, 0, -1, 0, -1), BearWitness.BAD);
        Due.finds("6 SIZE ahead of NOTHING", x, 0, x.copy(2, 0, 3, 0, -1), 5);
        Due.finds("6 NOTHING: from", x, 0, x.copy(2, 9, 0, 0, 1), 1);
        Due.finds("6 NOTHING: to", x, 1, x.copy(0, 9, 2, 0, 1), 1);
        Due.finds("6 BEYOND: too many from", x, 0, x.copy(0, 2, 1, 0, 2), 2);
        Due.finds("6 BEYOND: too many to", x, 1, x.copy(0, 0, 1, 1, 2), 2);
        Due.finds("6 BEYOND: n 0, i -1", x, 2, x.copy(0, -1, 1, 0, 0), 2);
        Due.finds("6 BEYOND: n 0, j -1", x, 3, x.copy(0, 0, 1, -1, 0), 2);
        Due.finds("6 BEYOND: n 0, i 4", x, 4, x.copy(0, 4, 1, 0, 0), 2);
        Due.finds("6 BEYOND: n 0, j 3", x, 5, x.copy(0, 0, 1, 3, 0), 2);
        Due.finds("6 BEYOND: n BIG", x, 6, x.copy(0, 1, 1, 1, BIG), 2);
        Due.finds("6 BEYOND: i BIG, n BIG", x, 7, x.copy(0, BIG, 1, BIG, BIG), 2);
        rowIs("6 refused: stays", x, 1, 4, 5);
    }

    private static void mean() {
        BearWitness x = new BearWitness();
        Due.row(x, 0, 1, 2, 2);
        Due.is("7 mean(0)", x.mean(0), 1);
        Due.is("7 5 thirds, cut", x.asked(), 1);
        Due.row(x, 0, -1, -2, -2);
        x.mean(0);
        Due.is("7 -5 thirds, cut", x.asked(), -1);
        Due.row(x, 0, BIG, BIG, BIG - 3);
        x.mean(0);
        Due.is("7 of great ints", x.asked(), BIG - 1);
        Due.row(x, 0, LOW, LOW);
        x.mean(0);
        Due.is("7 of low ints", x.asked(), LOW);
        Due.row(x, 0, LOW);
        Due.is("7 of one int", x.mean(0), 1);
        Due.is("7 of one int, asked()", x.asked(), LOW);
        x.row(1, 0);
        Due.finds("7 NOUGHT", x, 0, x.mean(1), 4);
        Due.finds("7 NOTHING", x, 0, x.mean(2), 1);
        Due.is("7 mean(6)", x.mean(6), BearWitness.BAD);
        Due.is("7 mean(-1)", x.mean(-1), BearWitness.BAD);
        Due.is("7 asked() stays", x.asked(), LOW);
    }
}
