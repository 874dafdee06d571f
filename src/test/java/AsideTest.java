import java.util.List;
import java.util.function.ToIntFunction;
import java.util.function.ToLongFunction;

/**
 * "3 what is told, shown (aside)", "4 whom to call (aside)", and all else that only asks: ROWS, TEXTS, BEARS, DEEDS
 * and kept COURTS are as without it (43, digest(), and what comes later). Objects have nothing in common.
 */
public final class AsideTest {
    private static final class Call {
        final String name;
        final int want;
        final ToIntFunction<BearWitness> does;

        Call(String name, int want, ToIntFunction<BearWitness> does) {
            this.name = name;
            this.want = want;
            this.does = does;
        }
    }

    private static final Call[] ALL = {
        new Call("at(3, 1)", 1, x -> x.at(3, 1)), new Call("mean(1)", 1, x -> x.mean(1)),
        new Call("fault(0)", -9, x -> x.fault(0)), new Call("fault(1)", 1, x -> x.fault(1)),
        new Call("bear(2, 5)", 1, x -> x.bear(2, 5)), new Call("bear(4, 4)", 1, x -> x.bear(4, 4)),
        new Call("mark(1, 1)", 1, x -> x.mark(1, 1)), new Call("mark(2, 2)", 1, x -> x.mark(2, 2)),
        new Call("mark(5, 3)", 3, x -> x.mark(5, 3)), new Call("mark(4, 4)", 1, x -> x.mark(4, 4)),
        new Call("mark(5, 5)", 1, x -> x.mark(5, 5)), new Call("tells(4, 1)", 1, x -> x.tells(4, 1)),
        new Call("tells(5, 1)", 0, x -> x.tells(5, 1)), new Call("tells(0, 0)", -9, x -> x.tells(0, 0)),
        new Call("shown(63)", 5, x -> x.shown(63)), new Call("shown(0)", 0, x -> x.shown(0)),
        new Call("call(1)", 1, x -> x.call(1)), new Call("call(5)", -9, x -> x.call(5)),
        new Call("shake(2, 63, 4)", -9, x -> x.shake(2, 63, 4)), new Call("shake(2, 63, 0)", -9, x -> x.shake(2, 63, 0)),
        new Call("shake(0, 32, 4), tear(4)", 2, x -> x.shake(0, 32, 4) + x.tear(4)),
        new Call("cover(15)", 2, x -> x.cover(15)), new Call("cover(16)", -9, x -> x.cover(16)),
        new Call("rivals(4, 5)", 2, x -> x.rivals(4, 5)), new Call("rivals(2, 4)", 0, x -> x.rivals(2, 4)),
        new Call("apart()", 1, x -> x.apart()), new Call("truths(5)", 1, x -> x.truths(5)),
        new Call("truths(3)", 1, x -> x.truths(3)), new Call("sure(5)", 4, x -> x.sure(5)),
        new Call("sure(3)", 63, x -> x.sure(3)), new Call("next(5)", 19, x -> x.next(5)),
        new Call("next(3)", -9, x -> x.next(3)), new Call("kinds(0, 5)", 63, x -> x.kinds(0, 5)),
        new Call("kinds(0, 3)", 0, x -> x.kinds(0, 3)), new Call("walls(5)", 0, x -> x.walls(5)),
        new Call("duel(2, 2)", 1, x -> x.duel(2, 2)), new Call("duel(1, 1)", 1, x -> x.duel(1, 1)),
        new Call("odds(2, 5)", 1, x -> x.odds(2, 5)), new Call("mid(5)", 1, x -> x.mid(5)),
        new Call("asked()", 7, x -> x.asked()), new Call("upper()", 0, x -> x.upper() > 0 ? 0 : 1),
        new Call("lower()", 0, x -> x.lower() > 1 ? 0 : 1), new Call("count(4)", 5, x -> x.count(4)),
        new Call("finding()", 0, x -> x.finding()), new Call("findings(3)", 0, x -> x.findings(3)),
        new Call("digest()", 0, x -> x.digest() == x.digest() ? 0 : 1)
    };

    /** Of two objects, in turn: what these tell hangs on all that the object itself was told before. */
    private static final List<ToLongFunction<BearWitness>> STEPS = steps();

    public static void main(String[] args) {
        asides();
        twoObjects();
        Due.end("AsideTest");
    }

    private static void asides() {
        long[] due = Life.later(Life.born());
        for (Call call : ALL) {
            BearWitness x = Life.born();
            Due.is(call.name, call.does.applyAsInt(x), call.want);
            Life.same("behind " + call.name, Life.later(x), due);
        }
        BearWitness x = Life.born();
        for (Call call : ALL) call.does.applyAsInt(x);
        Life.same("behind all of them", Life.later(x), due);
    }

    private static List<ToLongFunction<BearWitness>> steps() {
        return List.of(
            x -> x.press(1), x -> x.keep(2), x -> x.turn(0), x -> x.count(2), x -> x.bear(1, 2), x -> x.asked(),
            x -> x.row(4, 3), x -> x.lay(4, 1, 5), x -> x.shown(3), x -> x.mean(4), x -> x.asked(), x -> x.on(2),
            x -> x.odds(0, 5), x -> x.upper(), x -> x.lower(), x -> x.call(0), x -> x.fault(0), x -> x.shake(0, 3, 5),
            x -> x.at(5, 0), x -> x.finding(), x -> x.findings(1), x -> x.lots(7, 99), x -> x.undo(3), x -> x.keep(0),
            x -> x.tear(4), x -> x.tear(4), x -> x.duel(0, 2), x -> x.asked(), x -> x.mid(7), x -> x.upper(),
            x -> x.truths(3), x -> x.next(3), x -> x.kinds(1, 3), x -> x.walls(3), x -> x.on(0), x -> x.on(1),
            x -> x.apart(), x -> x.cover(3), x -> x.rivals(0, 1), x -> x.findings(5), x -> x.court(0), x -> x.on(0));
    }

    private static BearWitness first() {
        BearWitness x = Due.court("k03 b2803 b2701");
        Due.row(x, 3, 0, 1, 8, 1);
        return x;
    }

    private static BearWitness second() {
        BearWitness x = Due.court("k60 m2463 g0401 r2063 l0263");
        Due.row(x, 3, 4, 1, 8);
        return x;
    }

    private static long[] alone(BearWitness x) {
        long[] told = new long[2 * STEPS.size()];
        for (int d = 0; d < STEPS.size(); d++) {
            told[2 * d] = STEPS.get(d).applyAsLong(x);
            told[2 * d + 1] = x.digest();
        }
        return told;
    }

    private static void twoObjects() {
        long[] ofFirst = alone(first());
        long[] ofSecond = alone(second());
        BearWitness x = first();
        BearWitness y = second();
        BearWitness none = new BearWitness();
        long bare = none.digest();
        for (int d = 0; d < STEPS.size(); d++) {
            Due.is("the first of two, step " + d, STEPS.get(d).applyAsLong(x), ofFirst[2 * d]);
            Due.is("the second of two, step " + d, STEPS.get(d).applyAsLong(y), ofSecond[2 * d]);
            Due.is("the first of two, digest behind " + d, x.digest(), ofFirst[2 * d + 1]);
            Due.is("the second of two, digest behind " + d, y.digest(), ofSecond[2 * d + 1]);
            Due.is("a third one, digest behind " + d, none.digest(), bare);
        }
        Due.is("a third one: asked()", none.asked(), 0);
        Due.is("a third one: upper()", none.upper(), 0);
        Due.is("a third one: finding()", none.finding(), 0);
        Due.is("a third one: findings(1)", none.findings(1), 0);
        Due.is("one made late", new BearWitness().digest(), bare);
    }
}
