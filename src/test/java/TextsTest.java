/** Promises 8 to 13: TEXTS, COURTS, of one BEAR. */
public final class TextsTest {
    private static final int BIG = Integer.MAX_VALUE, LOW = Integer.MIN_VALUE;
    private static final String ALL_KINDS = "k21 b2015l0060p1021m2631g1763r2015";

    public static void main(String[] args) {
        text();
        put();
        faultNone();
        faults();
        court();
        courtKept();
        bear();
        mark();
        markByWear();
        Due.end("TextsTest");
    }

    private static void text() {
        BearWitness x = new BearWitness();
        Due.is("8 text(3, 60)", x.text(3, 60), 60);
        Due.is("8 text(0, 0)", x.text(0, 0), 0);
        Due.is("8 count(10)", x.count(10), 2);
        Due.is("8 a blank", x.put(3, 59, 65), 1032);
        Due.is("8 text(3, 60) anew", x.text(3, 60), 60);
        Due.is("8 a blank anew", x.put(3, 59, 65), 1032);
        Due.is("8 text(0, 61)", x.text(0, 61), BearWitness.BAD);
        Due.is("8 text(4, 1)", x.text(4, 1), BearWitness.BAD);
        Due.is("8 text(-1, -1): BAD ahead", x.text(-1, -1), BearWitness.BAD);
        Due.finds("8 text(0, -1)", x, 0, x.text(0, -1), 5);
        Due.finds("8 text(1, LOW)", x, 1, x.text(1, LOW), 5);
        Due.is("8 refused: none comes", x.count(10), 2);
    }

    private static void put() {
        BearWitness x = new BearWitness();
        Due.finds("9 NOTHING", x, 0, x.put(0, 0, 1), 1);
        x.text(0, 2);
        Due.is("9 put(0, 0, 127)", x.put(0, 0, 127), 1032);
        Due.is("9 put(0, 0, 128)", x.put(0, 0, 128), 1127);
        Due.is("9 put(0, 0, -129)", x.put(0, 0, -129), 872);
        Due.is("9 put(0, 0, 256)", x.put(0, 0, 256), 1127);
        Due.is("9 put(0, 0, BIG)", x.put(0, 0, BIG), 1000);
        Due.is("9 put(0, 0, 0)", x.put(0, 0, 0), 999);
        Due.is("9 the other one", x.put(0, 1, 0), 1032);
        Due.finds("9 put(0, 2, 1)", x, 0, x.put(0, 2, 1), 2);
        Due.finds("9 put(0, -1, 1)", x, 1, x.put(0, -1, 1), 2);
        Due.is("9 put(4, 0, 1)", x.put(4, 0, 1), BearWitness.BAD);
        Due.is("9 put(-1, 0, 1)", x.put(-1, 0, 1), BearWitness.BAD);
        Due.is("9 asked() stays", x.asked(), 0);
    }

    private static void faultIs(String s, int want) {
        BearWitness x = new BearWitness();
        Due.write(x, 1, s);
        Due.is("10 fault of \"" + s + "\"", x.fault(1), want);
        Due.is("10 no court by fault()", x.count(0), 0);
        Due.is("11 court by \"" + s + "\"", x.court(1) > 0 ? 1 : 0, want == BearWitness.NONE ? 1 : 0);
    }

    private static void faultNone() {
        faultIs("k00b0000", BearWitness.NONE);
        faultIs("k63b2963", BearWitness.NONE);
        faultIs("  k09  l1963   m0009  ", BearWitness.NONE);
        faultIs("k00b0000l0000p0000m0000g0000r0000", BearWitness.NONE);
        faultIs("k00b0000l0000p0000m0000g0000r0000  ", BearWitness.NONE);
        BearWitness x = new BearWitness();
        Due.finds("10 NOTHING", x, 0, x.fault(0), 1);
        Due.is("10 fault(4)", x.fault(4), BearWitness.BAD);
        Due.is("10 fault(-1)", x.fault(-1), BearWitness.BAD);
    }

    private static void faults() {
        faultIs("", 0);
        faultIs("   ", 3);
        faultIs(" b0000", 1);
        faultIs("K00b0000", 0);
        faultIs("k", 1);
        faultIs("k0", 2);
        faultIs("k00", 3);
        faultIs("k00  ", 5);
        faultIs("k0 0b0000", 2);
        faultIs("k 00b0000", 1);
        faultIs("k64b0000", 1);
        faultIs("k7", 2);
        faultIs("k7xb0000", 2);
        faultIs("k99b0000", 1);
        faultIs("k0:b0000", 2);
        faultIs("k:0b0000", 1);
        faultIs("k00x0000", 3);
        faultIs("k00k00", 3);
        faultIs("k00B0000", 3);
        faultIs("k00b3000", 4);
        faultIs("k00b2:00", 5);
        faultIs("k00b2/00", 5);
        faultIs("k00b2", 5);
        faultIs("k00b29", 6);
        faultIs("k00b296", 7);
        faultIs("k00b2964", 6);
        faultIs("k00b296 ", 7);
        faultIs("k00 b2963 b2970", 13);
        faultIs("k00b0000x", 8);
        faultIs("k00b0000\u00e2", 8);
        faultIs("k00b0000l0000p0000m0000g0000r0000b0000", 33);
        faultIs("k00b0000l0000p0000m0000g0000r0000 x", 34);
    }

    private static void court() {
        BearWitness x = new BearWitness();
        Due.is("11 court(4)", x.court(4), BearWitness.BAD);
        Due.is("11 court(-1)", x.court(-1), BearWitness.BAD);
        Due.finds("11 NOTHING ahead of STATE", x, 0, x.court(0), 1);
        Due.write(x, 2, " k05 p1921 g2033");
        Due.is("11 court(2)", x.court(2), 2);
        Due.is("11 DONE", x.count(1), 5);
        Due.is("11 WEAR", x.count(5), 9);
        Due.is("11 EYES", x.count(6), 3);
        Due.write(x, 3, "k63");
        Due.is("11 court(3), a FAULT", x.court(3), BearWitness.STATE);
        Due.is("11 refused: BEARS stay", x.count(0), 2);
        Due.is("11 refused: DONE stays", x.count(1), 5);
        Due.is("11 no FINDING", x.finding(), 1);
    }

    private static void courtKept() {
        BearWitness x = Due.court(ALL_KINDS);
        x.turn(0);
        x.press(1);
        x.keep(0);
        x.keep(2);
        x.text(3, 1);
        Due.is("11 refused", x.court(3), BearWitness.STATE);
        Due.is("11 refused: kept ones stay", x.count(11), 2);
        Due.is("11 refused: DEEDS stay", x.count(2), 2);
        Due.is("11 court(0) anew", x.court(0), 6);
        Due.is("11 no face to the WALL", x.count(3), 0);
        Due.is("11 no DEEDS", x.count(2), 0);
        Due.is("11 kept ones go", x.count(11), 0);
        Due.is("11 WEAR anew", x.count(5), 13);
        Due.finds("11 on(0)", x, 0, x.on(0), 1);
    }

    private static void ofBear(BearWitness x, int i, int... v) {
        for (int what = 0; what < 6; what++) {
            Due.is("12 bear(" + i + ", " + what + ")", x.bear(i, what), 1);
            Due.is("12 asked() of bear(" + i + ", " + what + ")", x.asked(), v[what]);
        }
    }

    private static void bear() {
        BearWitness x = Due.court(ALL_KINDS);
        ofBear(x, 0, 0, 2, 0, 15, 0, 15);
        ofBear(x, 1, 1, 0, 0, 60, 0, 60);
        ofBear(x, 2, 2, 1, 0, 21, 0, 21);
        ofBear(x, 3, 3, 2, 6, 31, 0, 31);
        ofBear(x, 4, 4, 1, 7, 63, 0, 63);
        ofBear(x, 5, 5, 2, 0, 15, 0, 15);
        x.turn(4);
        ofBear(x, 4, 4, 1, 7, 63, 1, 0);
        Due.is("12 bear(6, 0)", x.bear(6, 0), BearWitness.BAD);
        Due.is("12 bear(-1, 0)", x.bear(-1, 0), BearWitness.BAD);
        Due.is("12 bear(0, 6)", x.bear(0, 6), BearWitness.BAD);
        Due.is("12 bear(0, -1)", x.bear(0, -1), BearWitness.BAD);
        Due.is("12 bear(BIG, LOW)", x.bear(BIG, LOW), BearWitness.BAD);
        Due.is("12 asked() stays", x.asked(), 0);
    }

    private static void mark() {
        BearWitness x = Due.court("k21 b2063 l0061 p2013 m1331 g0063 r2163");
        int[][] due = {
            {-3, -3, -3, -3, -3}, {5, -3, -3, -3, -3}, {-3, 2, -3, -3, -3},
            {-3, -3, 2, -3, -3}, {6, -3, -3, 3, -3}, {-3, -3, 4, -3, 2}
        };
        int unlike = 0;
        for (int i = 0; i < 6; i++) {
            for (int kind = 1; kind < 6; kind++) {
                String call = "13 mark(" + i + ", " + kind + ")";
                int want = due[i][kind - 1];
                if (want == -3) Due.finds(call, x, unlike++, x.mark(i, kind), 3);
                else Due.is(call, x.mark(i, kind), want);
            }
        }
        Due.is("13 mark(0, 0)", x.mark(0, 0), BearWitness.BAD);
        Due.is("13 mark(0, 6)", x.mark(0, 6), BearWitness.BAD);
        Due.is("13 mark(0, -1)", x.mark(0, -1), BearWitness.BAD);
        Due.is("13 mark(6, 1)", x.mark(6, 1), BearWitness.BAD);
        Due.is("13 mark(-1, 1)", x.mark(-1, 1), BearWitness.BAD);
        Due.is("13 asked() stays", x.asked(), 0);
    }

    private static void markByWear() {
        BearWitness x = Due.court("k00 l2963 p2921 m2963 g2963 r2963 p1021");
        Due.is("13 a LOVED one's VIEW, whatever its WEAR", x.mark(0, 1), 6);
        Due.is("13 a PANDA that SEES nothing", x.mark(1, 2), 0);
        Due.is("13 a MOTHY one that has turned round", x.mark(2, 3), 0);
        Due.is("13 a ROYAL one's VIEW", x.mark(3, 1), 6);
        Due.is("13 a ROYAL one that SEES nothing", x.mark(3, 4), 0);
        Due.is("13 a RICH one, as MOTHY", x.mark(4, 3), 0);
        Due.is("13 a RICH one that knows nothing", x.mark(4, 5), 0);
        Due.is("13 a PANDA with one EYE", x.mark(5, 2), 0);
        x.turn(3);
        x.mend(3);
        Due.is("13 a ROYAL one SEES the WALL through", x.mark(3, 4), 6);
    }
}
