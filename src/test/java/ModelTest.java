import java.util.Random;

/** Runs of calls by chance, the seeds fixed, on the program and on the Model: all must be alike. */
public final class ModelTest {
    private static final int RUNS = 5000;
    // An object is good for 512 calls; the dearest step below takes fewer than 90.
    private static final int CALLS = 512 - 90;
    private static final String NAMES =
        "row lay at tear copy mean text put fault court bear mark press mend eye turn undo keep on "
        + "tells shown call shake cover rivals apart truths sure next kinds walls duel odds mid lots "
        + "count findings";
    private static final String[] CALL = NAMES.split(" ");
    private static final int[] WILD = {
        Integer.MIN_VALUE, Integer.MAX_VALUE, -1, -2, 6, 7, 12, 13, 40, 41, 60, 61, 63, 64, 2147483646
    };

    private final Random chance;
    private final BearWitness x = new BearWitness();
    private final Model m = new Model();
    private int used = 0;

    private ModelTest(long seed) {
        chance = new Random(seed);
    }

    public static void main(String[] args) {
        for (int run = 0; run < RUNS; run++) new ModelTest(run).play(run);
        Due.end("ModelTest");
    }

    private int upTo(int most) {
        if (chance.nextInt(40) == 0) return WILD[chance.nextInt(WILD.length)];
        if (chance.nextInt(12) == 0) return chance.nextInt(most + 4) - 2;
        return chance.nextInt(most + 1);
    }

    private void play(int run) {
        if (run % 10 != 0) newCourt(run, run % 3 == 0 ? 1 + chance.nextInt(6) : 6);
        while (used < CALLS) {
            int what = chance.nextInt(CALL.length + 12);
            if (what >= CALL.length + 4) pairs(run);
            else if (what >= CALL.length) handful(run);
            else if (CALL[what].equals("court") && chance.nextInt(3) != 0) continue;
            else if (CALL[what].equals("put") && chance.nextInt(3) == 0) newCourt(run, chance.nextInt(9));
            else one(run, CALL[what]);
        }
    }

    private void same(int run, String call, long got, long want) {
        used += 6;
        Due.is("run " + run + ": " + call, got, want);
        Due.is("run " + run + ": asked() behind " + call, x.asked(), m.asked);
        Due.is("run " + run + ": upper() behind " + call, x.upper(), m.upper);
        Due.is("run " + run + ": lower() behind " + call, x.lower(), m.lower);
        Due.is("run " + run + ": finding() behind " + call, x.finding(), m.finding);
        Due.is("run " + run + ": digest() behind " + call, x.digest(), m.digest());
    }

    /** A TEXT that is mostly a court, at times with something wrong in it. */
    private void newCourt(int run, int bears) {
        StringBuilder s = new StringBuilder();
        blanks(s);
        s.append('k');
        two(s, 63);
        blanks(s);
        for (int i = 0; i < bears; i++) {
            s.append(Model.LETTERS.charAt(chance.nextInt(6)));
            s.append(2 - chance.nextInt(3) * chance.nextInt(2));
            s.append(chance.nextInt(10));
            two(s, 63);
            blanks(s);
        }
        if (s.length() > 60) s.setLength(60);
        if (chance.nextInt(6) == 0) s.setCharAt(chance.nextInt(s.length()), (char) chance.nextInt(128));
        if (chance.nextInt(6) == 0) s.setCharAt(chance.nextInt(s.length()), "k bmg0379".charAt(chance.nextInt(9)));
        if (chance.nextInt(12) == 0) s.setLength(chance.nextInt(s.length()));
        same(run, "text(0, " + s.length() + ")", x.text(0, s.length()), m.text(0, s.length()));
        for (int i = 0; i < s.length(); i++) {
            used++;
            Due.is("run " + run + ": put", x.put(0, i, s.charAt(i)), m.put(0, i, s.charAt(i)));
        }
        same(run, "fault(0) of \"" + s + "\"", x.fault(0), m.fault(0));
        same(run, "court(0)", x.court(0), m.court(0));
    }

    private void blanks(StringBuilder s) {
        while (chance.nextInt(4) == 0) s.append(' ');
    }

    private void two(StringBuilder s, int most) {
        int v = chance.nextInt(most + 1);
        s.append(v / 10).append(v % 10);
    }

    /** A ROW of pairs, such as BEARS would tell, or not quite; and what is asked by it. */
    private void pairs(int run) {
        int pairs = chance.nextInt(9);
        int done = chance.nextInt(64);
        used += 1 + 2 * pairs;
        x.row(1, 2 * pairs);
        m.row(1, 2 * pairs);
        for (int p = 0; p < pairs && m.n() > 0; p++) {
            int i = chance.nextInt(m.n());
            int thing = chance.nextInt(6);
            int told = m.c().bears.get(i).tells(thing, chance.nextInt(3) == 0 ? m.c().done : done);
            if (told == Model.NONE) told = 2;
            if (chance.nextInt(8) == 0) told = chance.nextInt(3);
            x.lay(1, 2 * p, 8 * i + thing);
            m.lay(1, 2 * p, 8 * i + thing);
            x.lay(1, 2 * p + 1, told);
            m.lay(1, 2 * p + 1, told);
        }
        for (String call : new String[] {"truths", "sure", "next", "walls"}) three(run, call, 1, 0, 0);
        three(run, "kinds", upTo(5), 1, 0);
    }

    private void handful(int run) {
        for (int d = chance.nextInt(6); d > 0; d--) {
            int what = chance.nextInt(4);
            three(run, new String[] {"press", "press", "mend", "eye"}[what], upTo(5), 0, 0);
        }
    }

    private void one(int run, String call) {
        switch (call) {
            case "row": three(run, call, upTo(5), upTo(40), 0); break;
            case "lay": three(run, call, upTo(5), upTo(39), chance.nextInt(5) == 0 ? chance.nextInt() : upTo(48)); break;
            case "at": three(run, call, upTo(5), upTo(39), 0); break;
            case "copy": copy(run); break;
            case "text": three(run, call, 1 + upTo(2), upTo(60), 0); break;
            case "put": three(run, call, upTo(3), upTo(59), chance.nextInt(3) == 0 ? chance.nextInt() : upTo(127)); break;
            case "fault": case "court": three(run, call, upTo(3), 0, 0); break;
            case "tells": case "mark": case "bear": case "rivals": three(run, call, upTo(5), upTo(5), 0); break;
            case "undo": three(run, call, chance.nextBoolean() ? upTo(40) : m.count(2), 0, 0); break;
            case "keep": case "on": case "duel": three(run, call, upTo(call.equals("duel") ? 5 : 2), upTo(2), 0); break;
            case "shown": three(run, call, upTo(63), 0, 0); break;
            case "cover": three(run, call, upTo(63), 0, 0); break;
            case "shake": three(run, call, upTo(5), upTo((1 << m.n()) - 1), upTo(5)); break;
            case "odds": three(run, call, upTo(5), upTo(12), 0); break;
            case "mid": three(run, call, upTo(12), 0, 0); break;
            case "lots": three(run, call, upTo(20), chance.nextInt(Integer.MAX_VALUE), 0); break;
            case "count": three(run, call, upTo(11), 0, 0); break;
            default: three(run, call, upTo(5), upTo(5), upTo(5)); break;
        }
    }

    private void copy(int run) {
        int r = upTo(5);
        int i = upTo(20);
        int to = chance.nextBoolean() ? r : upTo(5);
        int j = upTo(20);
        int n = upTo(12);
        String call = "copy(" + r + ", " + i + ", " + to + ", " + j + ", " + n + ")";
        same(run, call, x.copy(r, i, to, j, n), m.copy(r, i, to, j, n));
    }

    private void three(int run, String call, int a, int b, int c) {
        String told = call + "(" + a + ", " + b + ", " + c + ")";
        switch (call) {
            case "row": same(run, told, x.row(a, b), m.row(a, b)); break;
            case "lay": same(run, told, x.lay(a, b, c), m.lay(a, b, c)); break;
            case "at": same(run, told, x.at(a, b), m.at(a, b)); break;
            case "tear": same(run, told, x.tear(a), m.tear(a)); break;
            case "mean": same(run, told, x.mean(a), m.mean(a)); break;
            case "text": same(run, told, x.text(a, b), m.text(a, b)); break;
            case "put": same(run, told, x.put(a, b, c), m.put(a, b, c)); break;
            case "fault": same(run, told, x.fault(a), m.fault(a)); break;
            case "court": same(run, told, x.court(a), m.court(a)); break;
            case "bear": same(run, told, x.bear(a, b), m.bear(a, b)); break;
            case "mark": same(run, told, x.mark(a, b), m.mark(a, b)); break;
            case "press": same(run, told, x.press(a), m.press(a)); break;
            case "mend": same(run, told, x.mend(a), m.mend(a)); break;
            case "eye": same(run, told, x.eye(a), m.eye(a)); break;
            case "turn": same(run, told, x.turn(a), m.turn(a)); break;
            case "undo": same(run, told, x.undo(a), m.undo(a)); break;
            case "keep": same(run, told, x.keep(a), m.keep(a)); break;
            case "on": same(run, told, x.on(a), m.on(a)); break;
            default: more(run, told, call, a, b, c); break;
        }
    }

    private void more(int run, String told, String call, int a, int b, int c) {
        switch (call) {
            case "tells": same(run, told, x.tells(a, b), m.tells(a, b)); break;
            case "shown": same(run, told, x.shown(a), m.shown(a)); break;
            case "call": same(run, told, x.call(a), m.call(a)); break;
            case "shake": same(run, told, x.shake(a, b, c), m.shake(a, b, c)); break;
            case "cover": same(run, told, x.cover(a), m.cover(a)); break;
            case "rivals": same(run, told, x.rivals(a, b), m.rivals(a, b)); break;
            case "apart": same(run, told, x.apart(), m.apart()); break;
            case "truths": same(run, told, x.truths(a), m.truths(a)); break;
            case "sure": same(run, told, x.sure(a), m.sure(a)); break;
            case "next": same(run, told, x.next(a), m.next(a)); break;
            case "kinds": same(run, told, x.kinds(a, b), m.kinds(a, b)); break;
            case "walls": same(run, told, x.walls(a), m.walls(a)); break;
            case "duel": same(run, told, x.duel(a, b), m.duel(a, b)); break;
            case "odds": same(run, told, x.odds(a, b), m.odds(a, b)); break;
            case "mid": same(run, told, x.mid(a), m.mid(a)); break;
            case "lots": same(run, told, x.lots(a, b), m.lots(a, b)); break;
            case "count": same(run, told, x.count(a), m.count(a)); break;
            case "findings": same(run, told, x.findings(a), m.findings(a)); break;
            default: Due.is(call, 0, 1); break;
        }
    }
}
