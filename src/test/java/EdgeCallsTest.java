import java.util.function.LongSupplier;

/** "An object is used for at most 512 calls": up to the last of them, each answers as at first. */
public final class EdgeCallsTest {
    private static final int MOST = 512;

    public static void main(String[] args) {
        sameToTheLast();
        findingsToTheLast();
        keptToTheLast();
        Due.end("EdgeCallsTest");
    }

    private static LongSupplier[] calls(BearWitness x) {
        return new LongSupplier[] {
            () -> x.shake(0, 63, 1), () -> x.duel(0, 2), () -> x.mid(5), () -> x.odds(2, 4), () -> x.apart(), () -> x.cover(63),
            () -> x.call(4), () -> x.truths(0), () -> x.sure(0), () -> x.next(0), () -> x.kinds(2, 0), () -> x.walls(0),
            () -> x.lots(20, 99), () -> x.undo(0), () -> x.fault(0), () -> x.digest(), () -> x.count(4), () -> x.mean(0)
        };
    }

    // The dearest calls, in turn, 512 in all.
    private static void sameToTheLast() {
        BearWitness x = Due.court(Edge.ALL_KINDS);
        Due.row(x, 0, 24, 1, 9, 2, 35, 1, 0, 1);
        int used = 35 + 1 + 9;
        LongSupplier[] calls = calls(x);
        long[] first = new long[calls.length];
        for (int d = 0; used < MOST; d++, used++) {
            int which = d % calls.length;
            long got = calls[which].getAsLong();
            if (d < calls.length) first[which] = got;
            else Due.is("call " + (used + 1) + ", as at first", got, first[which]);
        }
        Due.is("calls", used, MOST);
    }

    // 42 "How often": each of 512 but the last.
    private static void findingsToTheLast() {
        BearWitness x = new BearWitness();
        for (int d = 0; d < MOST - 1; d++) x.tear(d % 6);
        Due.is("42 findings(1), the 512th call", x.findings(1), MOST - 1);
    }

    // 19, 20 a COURT is kept, and gone on from, as often as calls are left.
    private static void keptToTheLast() {
        BearWitness x = Due.court("k01b2001");
        int used = 10;
        for (int d = 0; used < MOST; d++, used++) {
            if (d % 4 == 0) Due.is("19 keep, call " + used, x.keep(d / 4 % 3), 0);
            if (d % 4 == 1) Due.is("17 turn, call " + used, x.turn(0), 1);
            if (d % 4 == 2) Due.is("20 on, call " + used, x.on(d / 4 % 3), 0);
            if (d % 4 == 3) Due.is("40 count(3), call " + used, x.count(3), 0);
        }
    }
}
