/** What the project's tests share: answers that are due, courts by their texts. */
final class Due {
    private static int checked = 0;
    private static int wrong = 0;

    private Due() {
    }

    static void is(String call, long got, long want) {
        checked++;
        if (got == want) return;
        wrong++;
        System.out.println(call + " answered " + got + ", due is " + want);
    }

    /** A refusal by a FINDING: its number, and one more of them. */
    static void finds(String call, BearWitness x, int before, int got, int f) {
        is(call, got, BearWitness.FINDING);
        is(call + ": finding()", x.finding(), f);
        is(call + ": findings(" + f + ")", x.findings(f), before + 1);
    }

    static void write(BearWitness x, int t, String s) {
        x.text(t, s.length());
        for (int i = 0; i < s.length(); i++) x.put(t, i, s.charAt(i));
    }

    /** A new object with a COURT. */
    static BearWitness court(String s) {
        BearWitness x = new BearWitness();
        write(x, 0, s);
        if (x.court(0) < 1) {
            wrong++;
            System.out.println("no court by \"" + s + "\": fault " + x.fault(0));
        }
        return x;
    }

    /** A ROW of these ints. */
    static void row(BearWitness x, int r, int... v) {
        x.row(r, v.length);
        for (int i = 0; i < v.length; i++) x.lay(r, i, v[i]);
    }

    static void end(String name) {
        System.out.println(name + ": " + checked + " checked, " + wrong + " wrong");
        if (wrong != 0 || checked == 0) System.exit(1);
    }
}
