import java.util.function.ToIntFunction;

/**
 * ANSWERS: "What is refused changes nothing but finding(), findings()." Two objects
 * live alike, but that one of them is asked, in between, all that is refused: what
 * comes later is alike, too (the DEEDS to be undone, the kept COURTS).
 */
public final class RefusedTest {
    private static final class Call {
        final String name;
        final int want;
        final ToIntFunction<BearWitness> does;

        Call(String name, int want, ToIntFunction<BearWitness> does) {
            this.name = name;
            this.want = want;
            this.does = does;
        }
    }

    private static final Call[] ALL = {
        new Call("row(6, 0)", -1, x -> x.row(6, 0)), new Call("row(0, 41)", -1, x -> x.row(0, 41)),
        new Call("row(0, -1)", -3, x -> x.row(0, -1)), new Call("lay(6, 0, 1)", -1, x -> x.lay(6, 0, 1)),
        new Call("lay(4, 0, 1)", -3, x -> x.lay(4, 0, 1)), new Call("lay(0, 4, 1)", -3, x -> x.lay(0, 4, 1)),
        new Call("at(6, 0)", -1, x -> x.at(6, 0)), new Call("at(4, 0)", -3, x -> x.at(4, 0)),
        new Call("at(0, 4)", -3, x -> x.at(0, 4)), new Call("tear(6)", -1, x -> x.tear(6)),
        new Call("tear(4)", -3, x -> x.tear(4)), new Call("copy(0, 0, 6, 0, 1)", -1, x -> x.copy(0, 0, 6, 0, 1)),
        new Call("copy(0, 0, 1, 0, -1)", -3, x -> x.copy(0, 0, 1, 0, -1)),
        new Call("copy(0, 0, 4, 0, 1)", -3, x -> x.copy(0, 0, 4, 0, 1)),
        new Call("copy(0, 1, 1, 0, 4)", -3, x -> x.copy(0, 1, 1, 0, 4)), new Call("mean(6)", -1, x -> x.mean(6)),
        new Call("mean(4)", -3, x -> x.mean(4)), new Call("mean(2)", -3, x -> x.mean(2)),
        new Call("text(4, 0)", -1, x -> x.text(4, 0)), new Call("text(0, 61)", -1, x -> x.text(0, 61)),
        new Call("text(0, -1)", -3, x -> x.text(0, -1)), new Call("put(4, 0, 1)", -1, x -> x.put(4, 0, 1)),
        new Call("put(3, 0, 1)", -3, x -> x.put(3, 0, 1)), new Call("put(0, 60, 1)", -3, x -> x.put(0, 60, 1)),
        new Call("fault(4)", -1, x -> x.fault(4)), new Call("fault(3)", -3, x -> x.fault(3)),
        new Call("court(4)", -1, x -> x.court(4)), new Call("court(3)", -3, x -> x.court(3)),
        new Call("court(1)", -4, x -> x.court(1)), new Call("bear(6, 0)", -1, x -> x.bear(6, 0)),
        new Call("bear(0, 6)", -1, x -> x.bear(0, 6)), new Call("mark(0, 0)", -1, x -> x.mark(0, 0)),
        new Call("mark(0, 1)", -3, x -> x.mark(0, 1)), new Call("press(6)", -1, x -> x.press(6)),
        new Call("press(1)", -4, x -> x.press(1)), new Call("mend(6)", -1, x -> x.mend(6)),
        new Call("mend(2)", -4, x -> x.mend(2)), new Call("eye(6)", -1, x -> x.eye(6)),
        new Call("eye(1)", -4, x -> x.eye(1)), new Call("turn(6)", -1, x -> x.turn(6)),
        new Call("undo(41)", -1, x -> x.undo(41)), new Call("undo(-1)", -1, x -> x.undo(-1)),
        new Call("keep(3)", -1, x -> x.keep(3)), new Call("on(3)", -1, x -> x.on(3)),
        new Call("on(2)", -3, x -> x.on(2)), new Call("tells(0, 6)", -1, x -> x.tells(0, 6)),
        new Call("tells(0, 5)", -9, x -> x.tells(0, 5)), new Call("shown(64)", -1, x -> x.shown(64)),
        new Call("call(6)", -1, x -> x.call(6)), new Call("call(5)", -9, x -> x.call(5)),
        new Call("shake(6, 1, 0)", -1, x -> x.shake(6, 1, 0)), new Call("shake(0, 16, 0)", -9, x -> x.shake(0, 16, 0)),
        new Call("shake(0, 16, 4)", -9, x -> x.shake(0, 16, 4)), new Call("shake(0, 1, 6)", -1, x -> x.shake(0, 1, 6)),
        new Call("cover(64)", -1, x -> x.cover(64)), new Call("cover(32)", -9, x -> x.cover(32)),
        new Call("rivals(0, 0)", -1, x -> x.rivals(0, 0)), new Call("truths(6)", -1, x -> x.truths(6)),
        new Call("truths(4)", -3, x -> x.truths(4)), new Call("truths(1)", -3, x -> x.truths(1)),
        new Call("truths(0)", -3, x -> x.truths(0)), new Call("sure(6)", -1, x -> x.sure(6)),
        new Call("sure(4)", -3, x -> x.sure(4)), new Call("sure(1)", -3, x -> x.sure(1)),
        new Call("sure(0)", -3, x -> x.sure(0)), new Call("next(6)", -1, x -> x.next(6)),
        new Call("next(4)", -3, x -> x.next(4)), new Call("next(1)", -3, x -> x.next(1)),
        new Call("next(0)", -3, x -> x.next(0)), new Call("next(3)", -9, x -> x.next(3)),
        new Call("kinds(6, 2)", -1, x -> x.kinds(6, 2)), new Call("kinds(0, 6)", -1, x -> x.kinds(0, 6)),
        new Call("kinds(0, 4)", -3, x -> x.kinds(0, 4)), new Call("kinds(0, 1)", -3, x -> x.kinds(0, 1)),
        new Call("kinds(0, 0)", -3, x -> x.kinds(0, 0)), new Call("walls(6)", -1, x -> x.walls(6)),
        new Call("walls(4)", -3, x -> x.walls(4)), new Call("walls(1)", -3, x -> x.walls(1)),
        new Call("walls(0)", -3, x -> x.walls(0)), new Call("duel(0, 3)", -1, x -> x.duel(0, 3)),
        new Call("odds(0, 13)", -1, x -> x.odds(0, 13)), new Call("mid(13)", -1, x -> x.mid(13)),
        new Call("lots(0, 1)", -1, x -> x.lots(0, 1)), new Call("lots(1, 0)", -1, x -> x.lots(1, 0)),
        new Call("count(12)", -1, x -> x.count(12)), new Call("findings(0)", -1, x -> x.findings(0))
    };
    private static final Call[] AT_FORTY = {
        new Call("press(0)", -2, x -> x.press(0)), new Call("mend(0)", -2, x -> x.mend(0)),
        new Call("eye(0)", -2, x -> x.eye(0)), new Call("turn(0)", -2, x -> x.turn(0)),
        new Call("lots(1, 1)", -2, x -> x.lots(1, 1)), new Call("lots(20, 9)", -2, x -> x.lots(20, 9))
    };

    public static void main(String[] args) {
        long[] due = life();
        for (Call call : ALL) Life.same("behind " + call.name + ", refused", life(call), due);
        for (int from = 0; from < ALL.length; from++) {
            Call one = ALL[from];
            Call other = ALL[(from * 7 + 3) % ALL.length];
            Life.same("behind " + one.name + ", " + other.name + ", refused", life(one, other, one), due);
        }
        long[] forty = atForty();
        for (Call call : AT_FORTY) Life.same("behind " + call.name + ", refused", atForty(call), forty);
        Due.end("RefusedTest");
    }

    private static void refuse(BearWitness x, Call[] calls) {
        for (Call call : calls) Due.is(call.name, call.does.applyAsInt(x), call.want);
    }

    /** What is told later, of all that there was; what was told by asked(), upper(), lower(), too. */
    private static long[] life(Call... calls) {
        BearWitness x = Life.born();
        refuse(x, calls);
        long[] told = {x.asked(), x.upper(), x.lower()};
        long[] later = Life.later(x);
        long[] all = new long[told.length + later.length];
        System.arraycopy(told, 0, all, 0, told.length);
        System.arraycopy(later, 0, all, told.length, later.length);
        return all;
    }

    private static long[] atForty(Call... calls) {
        BearWitness x = Life.born();
        while (x.count(2) < 39) x.turn(1);
        x.mend(0);
        Due.is("forty DEEDS", x.count(2), 40);
        refuse(x, calls);
        long[] told = new long[82];
        for (int n = 40; n >= 0; n--) {
            told[2 * (40 - n)] = x.undo(n);
            told[2 * (40 - n) + 1] = x.digest();
        }
        return told;
    }
}
