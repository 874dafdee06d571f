/** Promises 14 to 20: DEEDS, kept COURTS. */
public final class DeedsTest {
    public static void main(String[] args) {
        press();
        mend();
        eye();
        turn();
        full();
        undo();
        undoEachKind();
        keepAndOn();
        Due.end("DeedsTest");
    }

    private static void press() {
        BearWitness x = Due.court("k00 b2701 m1563");
        Due.is("14 press(0)", x.press(0), 8);
        Due.is("14 press(0)", x.press(0), 9);
        Due.is("14 press(0) at 9", x.press(0), BearWitness.STATE);
        Due.is("14 press(1)", x.press(1), 6);
        Due.is("14 DEEDS", x.count(2), 3);
        Due.is("14 press(2)", x.press(2), BearWitness.BAD);
        Due.is("14 press(-1)", x.press(-1), BearWitness.BAD);
        Due.is("14 no BEARS", new BearWitness().press(0), BearWitness.BAD);
    }

    private static void mend() {
        BearWitness x = Due.court("k00 b2201");
        Due.is("15 mend(0)", x.mend(0), 1);
        Due.is("15 mend(0)", x.mend(0), 0);
        Due.is("15 mend(0) at 0", x.mend(0), BearWitness.STATE);
        Due.is("15 DEEDS", x.count(2), 2);
        Due.is("15 mend(1)", x.mend(1), BearWitness.BAD);
        Due.is("15 mend(-1)", x.mend(-1), BearWitness.BAD);
    }

    private static void eye() {
        BearWitness x = Due.court("k03 b2003");
        Due.is("16 eye(0)", x.eye(0), 1);
        Due.is("16 it SEES an even THING", x.tells(0, 0), 1);
        Due.is("16 it SEES no odd THING", x.tells(0, 1), BearWitness.NONE);
        Due.is("16 eye(0)", x.eye(0), 0);
        Due.is("16 it SEES nothing", x.tells(0, 0), BearWitness.NONE);
        Due.is("16 eye(0) without", x.eye(0), BearWitness.STATE);
        Due.is("16 DEEDS", x.count(2), 2);
        Due.is("16 eye(1)", x.eye(1), BearWitness.BAD);
        Due.is("16 eye(-1)", x.eye(-1), BearWitness.BAD);
    }

    private static void turn() {
        BearWitness x = Due.court("k01 b2001 b2001");
        Due.is("17 turn(1)", x.turn(1), 1);
        Due.is("17 count(3)", x.count(3), 2);
        Due.is("17 it TELLS nothing", x.tells(1, 0), BearWitness.NONE);
        Due.is("17 turn(1) back", x.turn(1), 0);
        Due.is("17 it TELLS", x.tells(1, 0), 1);
        Due.is("17 count(3) back", x.count(3), 0);
        Due.is("17 DEEDS", x.count(2), 2);
        Due.is("17 turn(2)", x.turn(2), BearWitness.BAD);
        Due.is("17 turn(-1)", x.turn(-1), BearWitness.BAD);
    }

    private static void full() {
        BearWitness x = Due.court("k01 b2501 l0001 m0901");
        for (int d = 0; d < 39; d++) x.turn(0);
        Due.is("14 the 40th DEED", x.press(0), 6);
        Due.is("14 FULL", x.press(0), BearWitness.FULL);
        Due.is("14 STATE ahead of FULL", x.press(2), BearWitness.STATE);
        Due.is("14 BAD ahead of FULL", x.press(3), BearWitness.BAD);
        Due.is("15 FULL", x.mend(0), BearWitness.FULL);
        Due.is("15 STATE ahead of FULL", x.mend(1), BearWitness.STATE);
        Due.is("15 BAD ahead of FULL", x.mend(3), BearWitness.BAD);
        Due.is("16 FULL", x.eye(0), BearWitness.FULL);
        Due.is("16 STATE ahead of FULL", x.eye(1), BearWitness.STATE);
        Due.is("16 BAD ahead of FULL", x.eye(3), BearWitness.BAD);
        Due.is("17 FULL", x.turn(0), BearWitness.FULL);
        Due.is("17 BAD ahead of FULL", x.turn(3), BearWitness.BAD);
        Due.is("17 refused: stays", x.count(3), 1);
        Due.is("14 refused: stays", x.count(5), 15);
        Due.is("18 undo(39)", x.undo(39), 1);
        Due.is("14 once more", x.press(0), 6);
    }

    private static void undo() {
        BearWitness x = new BearWitness();
        Due.is("18 undo(0), no BEARS", x.undo(0), 0);
        Due.is("18 undo(1), no BEARS", x.undo(1), BearWitness.BAD);
        x = Due.court("k01 b2001");
        x.press(0);
        x.press(0);
        x.press(0);
        Due.is("18 undo(3): none", x.undo(3), 0);
        Due.is("18 undo(4)", x.undo(4), BearWitness.BAD);
        Due.is("18 undo(-1)", x.undo(-1), BearWitness.BAD);
        Due.is("18 undo(1)", x.undo(1), 2);
        Due.is("18 WEAR", x.count(5), 1);
        Due.is("18 DEEDS", x.count(2), 1);
        Due.is("18 undo(2) then", x.undo(2), BearWitness.BAD);
        Due.is("18 undo(0)", x.undo(0), 1);
        Due.is("18 WEAR at first", x.count(5), 0);
    }

    private static void undoEachKind() {
        BearWitness x = Due.court("k21 b2015l0060p1021m2631g1763r2015");
        long before = x.digest();
        x.press(0);
        x.mend(3);
        x.eye(4);
        x.turn(5);
        x.lots(20, 4711);
        x.turn(5);
        Due.is("18 undo(0)", x.undo(0), 25);
        Due.is("18 all as before", x.digest(), before);
    }

    private static void keepAndOn() {
        BearWitness x = new BearWitness();
        Due.is("19 no BEARS", x.keep(0), BearWitness.STATE);
        Due.is("19 BAD ahead of STATE", x.keep(3), BearWitness.BAD);
        Due.is("19 keep(-1)", x.keep(-1), BearWitness.BAD);
        Due.finds("20 NOTHING", x, 0, x.on(2), 1);
        Due.is("20 on(3)", x.on(3), BearWitness.BAD);
        Due.is("20 on(-1)", x.on(-1), BearWitness.BAD);
        x = Due.court("k01 b2001 l0001");
        Due.is("19 keep(0)", x.keep(0), 0);
        x.press(0);
        x.turn(1);
        Due.is("19 keep(2)", x.keep(2), 2);
        Due.is("19 count(11)", x.count(11), 2);
        long kept = x.digest();
        x.eye(0);
        x.press(1);
        Due.is("20 on(2)", x.on(2), 2);
        Due.is("20 as it was", x.digest(), kept);
        Due.is("20 DEEDS too: undo(1)", x.undo(1), 1);
        Due.is("20 what was turned is back", x.count(3), 0);
        Due.is("20 on(2) once more", x.on(2), 2);
        Due.is("20 it is kept as it was", x.digest(), kept);
        Due.is("20 on(0)", x.on(0), 0);
        Due.is("20 WEAR at first", x.count(5), 0);
        Due.is("20 undo(1): no DEEDS", x.undo(1), BearWitness.BAD);
        x.eye(0);
        x.on(2);
        x.mend(0);
        Due.is("20 DEEDS of its own: undo(0)", x.undo(0), 3);
        Due.is("20 DEEDS of its own: WEAR", x.count(5), 0);
        Due.is("20 DEEDS of its own: EYES", x.count(6), 2);
        Due.is("20 DEEDS of its own: the WALL", x.count(3), 0);
        x.on(0);
        x.press(1);
        x.keep(0);
        x.undo(0);
        x.press(0);
        x.on(0);
        x.undo(0);
        x.bear(1, 2);
        Due.is("20 whose DEED it was", x.asked(), 0);
        x.press(1);
        Due.is("19 keep(2) anew", x.keep(2), 1);
        Due.finds("20 on(1)", x, 0, x.on(1), 1);
    }
}
