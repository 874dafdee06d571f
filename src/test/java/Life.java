/** An object in the midst of its life, and what is told of all that there was in it. */
final class Life {
    private Life() {
    }

    /**
     * ROW 0 is of pairs that are UNLIKE, 1 of an odd SIZE, 2 empty, 3 of pairs by which there is no set, 5 of pairs
     * by which there are some, 4 missing; TEXT 1 has a FAULT, 2 and 3 are missing; COURTS are kept in 0 and 1.
     */
    static BearWitness born() {
        BearWitness x = Due.court("k05 b2807 l0901 p2004 m1507 g0107 r2107");
        Due.write(x, 1, "k64b0000");
        Due.row(x, 0, 0, 1, 47, 0);
        Due.row(x, 1, 0, 1, 2);
        x.row(2, 0);
        Due.row(x, 3, 0, 1, 0, 0);
        Due.row(x, 5, 18, 1, 33, 1, 11, 2);
        x.press(0);
        x.turn(2);
        x.keep(0);
        x.eye(3);
        x.mend(4);
        x.turn(2);
        x.keep(1);
        x.press(5);
        x.bear(0, 3);
        x.odds(2, 5);
        return x;
    }

    /** What is told later: of the DEEDS undone, of the COURTS gone on from, of DEEDS that come. */
    static long[] later(BearWitness x) {
        long[] told = new long[50];
        told[0] = x.digest();
        told[1] = x.undo(4);
        told[2] = x.digest();
        told[3] = x.on(1);
        told[4] = x.digest();
        told[5] = x.undo(1);
        told[6] = x.digest();
        told[7] = x.on(0);
        told[8] = x.digest();
        for (int d = 0; d < 20; d++) {
            told[9 + 2 * d] = x.lots(1, 77 + d);
            told[10 + 2 * d] = x.digest();
        }
        told[49] = x.undo(0);
        return told;
    }

    static void same(String call, long[] got, long[] due) {
        Due.is(call + ": as much is told", got.length, due.length);
        for (int d = 0; d < due.length; d++) Due.is(call + ": " + d, got[d], due[d]);
    }
}
