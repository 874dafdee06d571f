import java.util.function.IntSupplier;

/** The edges that promises 14 to 20 name, sentence by sentence. */
public final class EdgeDeedsTest {
    private static final int[] NO_BEAR = {-1, 3, 6, Edge.MIN, Edge.MAX};

    public static void main(String[] args) {
        pressToNine();
        mendToNought();
        eyeToNone();
        turnAndBack();
        noSuchBear();
        fortyDeeds();
        fullLast();
        undoFrom();
        undoOfForty();
        undoRefused();
        undoOneByOne();
        keepPlaces();
        keepRefused();
        onAsItWasKept();
        onWithItsDeeds();
        onOfForty();
        onRefused();
        Due.end("EdgeDeedsTest");
    }

    /** Three BEARS: WEAR 0, 8, 9 and EYES 2, 1, 0. */
    private static BearWitness three() {
        return Due.court("k63 b2063 l1863 m0963");
    }

    private static void is(String call, IntSupplier does, int want) {
        Due.is(call, does.getAsInt(), want);
    }

    // 14 "PRESSED: its WEAR then. BAD; STATE: it is 9"
    private static void pressToNine() {
        BearWitness x = three();
        for (int wear = 1; wear <= 9; wear++) {
            is("14 press(0) to " + wear, () -> x.press(0), wear);
            Due.is("14 its WEAR", Edge.ofBear(x, 0, 2), wear);
        }
        Edge.refused("14 press(0) at 9", x, () -> x.press(0), Edge.STATE);
        is("14 press(1) to 9", () -> x.press(1), 9);
        Edge.refused("14 press(1) at 9", x, () -> x.press(1), Edge.STATE);
        Edge.refused("14 press(2) at 9", x, () -> x.press(2), Edge.STATE);
        Due.is("14 DEEDS", x.count(2), 10);
        Due.is("14 all WEAR", x.count(5), 27);
        is("14 with its face to the WALL: turn(0)", () -> x.turn(0), 1);
        is("14 with its face to the WALL: mend(0)", () -> x.mend(0), 8);
        is("14 with its face to the WALL: press(0)", () -> x.press(0), 9);
    }

    // 15 "MENDED: its WEAR then. BAD; STATE: it is 0"
    private static void mendToNought() {
        BearWitness x = three();
        Edge.refused("15 mend(0) at 0", x, () -> x.mend(0), Edge.STATE);
        for (int wear = 8; wear >= 0; wear--) {
            is("15 mend(2) to " + wear, () -> x.mend(2), wear);
            Due.is("15 its WEAR", Edge.ofBear(x, 2, 2), wear);
        }
        Edge.refused("15 mend(2) at 0", x, () -> x.mend(2), Edge.STATE);
        is("15 mend(1)", () -> x.mend(1), 7);
        Due.is("15 DEEDS", x.count(2), 10);
        Due.is("15 all WEAR", x.count(5), 7);
    }

    // 16 "An EYE comes off: how many it has then. BAD; STATE: it has none"
    private static void eyeToNone() {
        BearWitness x = three();
        is("16 eye(0)", () -> x.eye(0), 1);
        Due.is("16 its EYES", Edge.ofBear(x, 0, 1), 1);
        is("16 eye(0)", () -> x.eye(0), 0);
        Due.is("16 its EYES", Edge.ofBear(x, 0, 1), 0);
        Edge.refused("16 eye(0), none", x, () -> x.eye(0), Edge.STATE);
        is("16 eye(1)", () -> x.eye(1), 0);
        Edge.refused("16 eye(1), none", x, () -> x.eye(1), Edge.STATE);
        Edge.refused("16 eye(2), none", x, () -> x.eye(2), Edge.STATE);
        Due.is("16 DEEDS", x.count(2), 3);
        Due.is("16 all EYES", x.count(6), 0);
    }

    // 17 "TURNED: 1 its face is to the WALL then, 0 not." (never STATE)
    private static void turnAndBack() {
        BearWitness x = Due.court(Edge.ALL_KINDS);
        int wall = 0;
        for (int i = 0; i < 6; i++) {
            int who = i;
            is("17 turn(" + i + ")", () -> x.turn(who), 1);
            wall |= 1 << i;
            Due.is("17 count(3)", x.count(3), wall);
        }
        for (int i = 5; i >= 0; i--) {
            int who = i;
            is("17 turn(" + i + ") back", () -> x.turn(who), 0);
            wall &= ~(1 << i);
            Due.is("17 count(3)", x.count(3), wall);
        }
        Due.is("17 DEEDS", x.count(2), 12);
    }

    // 14 to 17 "BAD", ahead of all.
    private static void noSuchBear() {
        for (int i : NO_BEAR) {
            BearWitness x = three();
            Edge.bad("14 press(" + i + ")", x, () -> x.press(i));
            Edge.bad("15 mend(" + i + ")", x, () -> x.mend(i));
            Edge.bad("16 eye(" + i + ")", x, () -> x.eye(i));
            Edge.bad("17 turn(" + i + ")", x, () -> x.turn(i));
        }
        BearWitness x = new BearWitness();
        Edge.bad("14 press(0), no BEARS", x, () -> x.press(0));
        Edge.bad("15 mend(0), no BEARS", x, () -> x.mend(0));
        Edge.bad("16 eye(0), no BEARS", x, () -> x.eye(0));
        Edge.bad("17 turn(0), no BEARS", x, () -> x.turn(0));
    }

    private static BearWitness withDeeds(int n) {
        BearWitness x = Due.court("k63 b2563 l1063 m0963");
        for (int d = 0; d < n; d++) x.turn(0);
        return x;
    }

    // Terms: "DEEDS 0, 1, .. (40 at most)". 14 "FULL: 40 DEEDS": the fortieth can be, each kind of it.
    private static void fortyDeeds() {
        for (int kind = 0; kind < 4; kind++) {
            BearWitness x = withDeeds(39);
            if (kind == 0) is("14 the fortieth", () -> x.press(0), 6);
            if (kind == 1) is("15 the fortieth", () -> x.mend(0), 4);
            if (kind == 2) is("16 the fortieth", () -> x.eye(0), 1);
            if (kind == 3) is("17 the fortieth", () -> x.turn(0), 0);
            Due.is("14 forty DEEDS", x.count(2), 40);
            Edge.refused("14 FULL", x, () -> x.press(0), Edge.FULL);
            Edge.refused("15 FULL", x, () -> x.mend(0), Edge.FULL);
            Edge.refused("16 FULL", x, () -> x.eye(1), Edge.FULL);
            Edge.refused("17 FULL", x, () -> x.turn(0), Edge.FULL);
            Edge.refused("17 FULL", x, () -> x.turn(2), Edge.FULL);
            is("18 one is undone", () -> x.undo(39), 1);
            is("14 then there can be one more", () -> x.press(0), 6);
            Edge.refused("14 FULL again", x, () -> x.press(0), Edge.FULL);
        }
    }

    // 14, 15, 16, 17 "(FULL last.)": behind BAD, behind STATE.
    private static void fullLast() {
        BearWitness x = withDeeds(40);
        Edge.refused("14 STATE ahead of FULL", x, () -> x.press(2), Edge.STATE);
        Edge.refused("15 STATE ahead of FULL", x, () -> x.mend(1), Edge.STATE);
        Edge.refused("16 STATE ahead of FULL", x, () -> x.eye(2), Edge.STATE);
        for (int i : new int[] {-1, 3, 6}) {
            Edge.bad("14 press(" + i + ") ahead of FULL", x, () -> x.press(i));
            Edge.bad("15 mend(" + i + ") ahead of FULL", x, () -> x.mend(i));
            Edge.bad("16 eye(" + i + ") ahead of FULL", x, () -> x.eye(i));
            Edge.bad("17 turn(" + i + ") ahead of FULL", x, () -> x.turn(i));
        }
    }

    /** Eleven DEEDS, of all sorts; what is told of the COURT before each, and behind the last, is kept in order. */
    private static long[] deeds(BearWitness x) {
        long[] then = new long[12];
        IntSupplier[] all = {
            () -> x.press(0), () -> x.turn(1), () -> x.eye(2), () -> x.mend(3), () -> x.press(0), () -> x.turn(1),
            () -> x.turn(1), () -> x.eye(2), () -> x.mend(3), () -> x.press(5), () -> x.turn(0)
        };
        for (int d = 0; d < all.length; d++) {
            then[d] = x.digest();
            Due.is("18 DEED " + d, all[d].getAsInt() >= 0 ? 1 : 0, 1);
        }
        then[11] = x.digest();
        return then;
    }

    private static BearWitness six() {
        return Due.court("k21 b2063 l0860 p2021 m2631 g1763 r2015");
    }

    // 18 "DEEDS from number n on (0 to how many there are: none then) are undone: how many."
    private static void undoFrom() {
        for (int n = 0; n <= 11; n++) {
            BearWitness x = six();
            long[] then = deeds(x);
            int from = n;
            is("18 undo(" + n + ") of 11", () -> x.undo(from), 11 - n);
            Due.is("18 undo(" + n + "): DEEDS", x.count(2), n);
            Due.is("18 undo(" + n + "): as it was", x.digest(), then[n]);
            is("18 undo(" + n + ") again: none", () -> x.undo(from), 0);
            is("18 undo(0)", () -> x.undo(0), n);
            Due.is("18 undo(0): as at first", x.digest(), then[0]);
            is("18 undo(0) again: none", () -> x.undo(0), 0);
        }
        BearWitness x = new BearWitness();
        Edge.refused("18 undo(0), no BEARS: none", x, () -> x.undo(0), 0);
    }

    private static void undoOfForty() {
        BearWitness x = six();
        long first = x.digest();
        for (int d = 0; d < 10; d++) {
            x.press(0);
            x.turn(d % 6);
            x.mend(0);
            x.turn(5 - d % 6);
        }
        long full = x.digest();
        Due.is("18 forty DEEDS", x.count(2), 40);
        is("18 undo(40): none", () -> x.undo(40), 0);
        Due.is("18 undo(40): all stays", x.digest(), full);
        Edge.bad("18 undo(41)", x, () -> x.undo(41));
        is("18 undo(0): all forty", () -> x.undo(0), 40);
        Due.is("18 undo(0): as at first", x.digest(), first);
    }

    // 18 "BAD.": below 0, above how many there are.
    private static void undoRefused() {
        BearWitness x = six();
        for (int n : new int[] {-1, 1, 40, Edge.MIN, Edge.MAX}) Edge.bad("18 undo(" + n + "), no DEEDS", x, () -> x.undo(n));
        deeds(x);
        for (int n : new int[] {-1, 12, 13, 40, 41, Edge.MIN, Edge.MAX}) Edge.bad("18 undo(" + n + ") of 11", x, () -> x.undo(n));
        x.undo(3);
        for (int n : new int[] {4, 11}) Edge.bad("18 undo(" + n + ") of 3", x, () -> x.undo(n));
        BearWitness y = new BearWitness();
        for (int n : new int[] {-1, 1, 40}) Edge.bad("18 undo(" + n + "), no BEARS", y, () -> y.undo(n));
    }

    private static void undoOneByOne() {
        BearWitness x = six();
        long[] then = deeds(x);
        for (int n = 10; n >= 0; n--) {
            int from = n;
            is("18 undo(" + n + "), the last one", () -> x.undo(from), 1);
            Due.is("18 undo(" + n + "): as it was", x.digest(), then[n]);
        }
        Due.is("14 DEEDS anew", x.press(3), 7);
        Due.is("14 DEEDS anew: their number", x.count(2), 1);
        is("18 undo(0): the new one", () -> x.undo(0), 1);
        Due.is("18 as at first", x.digest(), then[0]);
    }

    // 19 "is kept in a place (0 .. 2): how many DEEDS."
    private static void keepPlaces() {
        BearWitness x = six();
        is("19 keep(0), no DEEDS", () -> x.keep(0), 0);
        Due.is("19 count(11)", x.count(11), 1);
        x.press(0);
        is("19 keep(2)", () -> x.keep(2), 1);
        Due.is("19 count(11)", x.count(11), 2);
        x.turn(0);
        is("19 keep(1)", () -> x.keep(1), 2);
        Due.is("19 count(11)", x.count(11), 3);
        is("19 keep(0) anew", () -> x.keep(0), 2);
        Due.is("19 count(11)", x.count(11), 3);
        Due.is("19 DEEDS stay", x.count(2), 2);
        while (x.count(2) < 40) x.turn(3);
        is("19 keep(2) anew, forty DEEDS", () -> x.keep(2), 40);
        is("20 on(1)", () -> x.on(1), 2);
        is("20 on(0)", () -> x.on(0), 2);
        is("20 on(2)", () -> x.on(2), 40);
        Due.is("20 kept ones stay", x.count(11), 3);
    }

    // 19 "BAD; STATE: no BEARS."
    private static void keepRefused() {
        BearWitness x = new BearWitness();
        for (int k = 0; k < 3; k++) {
            int place = k;
            Edge.refused("19 keep(" + k + "), no BEARS", x, () -> x.keep(place), Edge.STATE);
        }
        for (int k : new int[] {-1, 3, Edge.MIN, Edge.MAX}) Edge.bad("19 keep(" + k + "): ahead of STATE", x, () -> x.keep(k));
        BearWitness y = six();
        y.press(0);
        for (int k : new int[] {-1, 3, 4, Edge.MIN, Edge.MAX}) Edge.bad("19 keep(" + k + ")", y, () -> y.keep(k));
    }

    // 20 "The COURT is as it was kept": BEARS and what was DONE to them; the kept one is no other by what comes.
    private static void onAsItWasKept() {
        BearWitness x = six();
        deeds(x);
        x.keep(1);
        long kept = x.digest();
        for (int round = 0; round < 3; round++) {
            x.undo(5 - round);
            x.press(1);
            x.turn(round);
            x.eye(0);
            x.mend(4);
            is("20 on(1)", () -> x.on(1), 11);
            Due.is("20 on(1): as it was kept", x.digest(), kept);
        }
        x.undo(0);
        is("20 on(1) once more", () -> x.on(1), 11);
        Due.is("20 on(1) once more: as it was kept", x.digest(), kept);
        is("20 on(1) at once", () -> x.on(1), 11);
        Due.is("20 on(1) at once: as it was kept", x.digest(), kept);
    }

    /** A COURT with its eleven DEEDS kept in place 2. */
    private static BearWitness keptInTwo() {
        BearWitness x = six();
        deeds(x);
        x.keep(2);
        return x;
    }

    // 20 ".. DEEDS": those that were kept, whatever came between, can be undone one by one.
    private static void onWithItsDeeds() {
        BearWitness x = keptInTwo();
        x.undo(0);
        for (int d = 0; d < 13; d++) x.turn(d % 6);
        is("20 on(2)", () -> x.on(2), 11);
        for (int n = 10; n >= 0; n--) {
            int from = n;
            BearWitness like = keptInTwo();
            like.undo(n);
            is("20 undo(" + n + ")", () -> x.undo(from), 1);
            Due.is("20 undo(" + n + "): as it was", x.digest(), like.digest());
        }
        is("20 on(2): what was undone is kept", () -> x.on(2), 11);
        is("20 undo(4)", () -> x.undo(4), 7);
        is("19 keep(2) anew", () -> x.keep(2), 4);
        is("20 undo(0)", () -> x.undo(0), 4);
        is("20 on(2), kept anew", () -> x.on(2), 4);
    }

    private static void onOfForty() {
        BearWitness x = withDeeds(40);
        x.keep(0);
        x.undo(0);
        is("20 on(0): forty DEEDS", () -> x.on(0), 40);
        Edge.refused("17 FULL, gone on from", x, () -> x.turn(0), Edge.FULL);
        is("18 undo(0) of forty, gone on from", () -> x.undo(0), 40);
        x.keep(1);
        x.press(0);
        is("20 on(1): none", () -> x.on(1), 0);
        Edge.bad("18 undo(1): there is none", x, () -> x.undo(1));
    }

    // 20 "BAD; NOTHING."
    private static void onRefused() {
        BearWitness x = six();
        x.press(0);
        x.keep(1);
        x.turn(0);
        Edge.finds("20 on(0), missing", x, () -> x.on(0), Edge.NOTHING);
        Edge.finds("20 on(2), missing", x, () -> x.on(2), Edge.NOTHING);
        for (int k : new int[] {-1, 3, 4, Edge.MIN, Edge.MAX}) Edge.bad("20 on(" + k + ")", x, () -> x.on(k));
        BearWitness y = new BearWitness();
        Edge.finds("20 on(0), no BEARS", y, () -> y.on(0), Edge.NOTHING);
        Edge.bad("20 on(3), no BEARS", y, () -> y.on(3));
    }
}
