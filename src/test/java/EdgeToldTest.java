import java.util.ArrayList;
import java.util.List;
import java.util.function.IntSupplier;
import java.util.function.LongSupplier;

/** The edges that promises 37 to 43 and the ANSWERS name, sentence by sentence. */
public final class EdgeToldTest {
    private static final int MARKED = 777;

    public static void main(String[] args) {
        before();
        askedByThese();
        askedNotByOthers();
        askedNotByNone();
        askedNotByRefused();
        askedNoneByTruths();
        upperAndLowerByThree();
        nothingIsNoughtByOne();
        countLeast();
        countMost();
        countOfKinds();
        countRefused();
        findingEach();
        findingsNotByOthers();
        findingStays();
        findingsRefused();
        digestOfNew();
        digestOfFull();
        digestMissingOrEmpty();
        digestLetsAllStay();
        Due.end("EdgeToldTest");
    }

    // 37, 41, 42 "0 before"; 38 "0 before", 39 "1 before".
    private static void before() {
        BearWitness x = new BearWitness();
        Due.is("37 before", x.asked(), 0);
        Due.is("38 before", x.upper(), 0);
        Due.is("39 before", x.lower(), 1);
        Due.is("41 before", x.finding(), 0);
        for (int f = 1; f <= 5; f++) Due.is("42 findings(" + f + ") before", x.findings(f), 0);
    }

    /** A COURT, a ROW 0 of pairs, and a ROW 5 by which asked() can be marked. */
    private static BearWitness marked() {
        BearWitness x = Due.court(Edge.ALL_KINDS);
        Due.row(x, 0, 0, 1, 1, 0);
        Due.row(x, 1, 10, 20);
        Due.row(x, 5, MARKED);
        x.at(5, 0);
        return x;
    }

    private static void asks(BearWitness x, String call, IntSupplier does, int told) {
        x.at(5, 0);
        Due.is("37 asked() ahead of " + call, x.asked(), MARKED);
        Due.is("37 " + call + " is answered", does.getAsInt() >= 0 ? 1 : 0, 1);
        Due.is("37 asked() behind " + call, x.asked(), told);
        Due.is("37 asked() once more", x.asked(), told);
    }

    // 37 "What the latest lay(), at(), mean(), bear(), shown(), call(), cover(), apart(), truths(), sure(), next(), walls(), duel() .. told"
    private static void askedByThese() {
        BearWitness x = marked();
        asks(x, "lay(1, 0, 11)", () -> x.lay(1, 0, 11), 10);
        asks(x, "at(1, 0)", () -> x.at(1, 0), 11);
        asks(x, "mean(1)", () -> x.mean(1), 15);
        asks(x, "bear(4, 2)", () -> x.bear(4, 2), 7);
        asks(x, "shown(63)", () -> x.shown(63), 34);
        asks(x, "shown(0)", () -> x.shown(0), 0);
        asks(x, "call(1)", () -> x.call(1), 8);
        asks(x, "cover(0)", () -> x.cover(0), 0);
        asks(x, "cover(63)", () -> x.cover(63), 16);
        asks(x, "apart()", () -> x.apart(), 24);
        asks(x, "truths(0)", () -> x.truths(0), 1);
        asks(x, "sure(0)", () -> x.sure(0), 2);
        asks(x, "next(0)", () -> x.next(0), 8);
        asks(x, "walls(0)", () -> x.walls(0), 1);
        asks(x, "duel(0, 0)", () -> x.duel(0, 0), 3);
        asks(x, "duel(3, 0)", () -> x.duel(3, 0), -1);
    }

    private static List<IntSupplier> othersOf(BearWitness x) {
        List<IntSupplier> all = new ArrayList<>(List.of(
            () -> x.row(2, 3), () -> x.copy(1, 0, 2, 0, 2), () -> x.tear(2), () -> x.text(1, 5), () -> x.put(1, 0, 9),
            () -> x.fault(0), () -> x.fault(1), () -> x.mark(1, 1), () -> x.press(0), () -> x.mend(0)));
        all.addAll(List.of(
            () -> x.eye(0), () -> x.turn(0), () -> x.keep(0), () -> x.on(0), () -> x.undo(2), () -> x.undo(0),
            () -> x.tells(0, 0), () -> x.shake(0, 9, 3), () -> x.rivals(0, 3), () -> x.kinds(0, 0)));
        all.addAll(List.of(
            () -> x.lots(5, 5), () -> x.asked(), () -> x.count(4), () -> x.finding(), () -> x.findings(1),
            () -> (int) x.digest(), () -> (int) x.upper(), () -> (int) x.lower(), () -> x.court(0)));
        return all;
    }

    // 37 .. and by no other call.
    private static void askedNotByOthers() {
        BearWitness x = marked();
        List<IntSupplier> others = othersOf(x);
        others.add(() -> x.odds(0, 3));
        others.add(() -> x.mid(3));
        for (int d = 0; d < others.size(); d++) {
            others.get(d).getAsInt();
            Due.is("37 asked() behind other call " + d, x.asked(), MARKED);
        }
        Due.is("37 none was refused by a FINDING", x.finding(), 0);
    }

    // 37 "(nor NONE)"
    private static void askedNotByNone() {
        BearWitness x = Due.court("k00 b2001 b2001");
        Due.row(x, 0, 0, 1, 0, 0);
        Due.row(x, 5, MARKED);
        x.at(5, 0);
        Edge.refused("37 call(0), NONE", x, () -> x.call(0), Edge.NONE);
        Edge.refused("37 cover(2), NONE", x, () -> x.cover(2), Edge.NONE);
        Edge.refused("37 next(0), NONE", x, () -> x.next(0), Edge.NONE);
        Due.is("37 asked() stays", x.asked(), MARKED);
    }

    // 37 "that was not refused"
    private static void askedNotByRefused() {
        BearWitness x = marked();
        IntSupplier[] refused = {
            () -> x.lay(1, 2, 5), () -> x.at(1, 2), () -> x.mean(4), () -> x.bear(6, 0), () -> x.shown(64), () -> x.call(6),
            () -> x.cover(64), () -> x.truths(1), () -> x.sure(4), () -> x.next(5), () -> x.walls(6), () -> x.duel(0, 3)
        };
        for (int d = 0; d < refused.length; d++) {
            Due.is("37 refused call " + d, refused[d].getAsInt() < 0 ? 1 : 0, 1);
            Due.is("37 asked() behind refused call " + d, x.asked(), MARKED);
        }
        BearWitness y = new BearWitness();
        Due.row(y, 5, MARKED);
        y.at(5, 0);
        IntSupplier[] noBears = {
            () -> y.shown(0), () -> y.call(0), () -> y.cover(0), () -> y.apart(), () -> y.truths(5), () -> y.sure(5),
            () -> y.next(5), () -> y.walls(5), () -> y.duel(0, 0)
        };
        for (int d = 0; d < noBears.length; d++) {
            Due.is("37 no BEARS, call " + d, noBears[d].getAsInt(), Edge.STATE);
            Due.is("37 asked(), no BEARS, call " + d, y.asked(), MARKED);
        }
    }

    // 28 "the least by asked() (bits; NONE): 1": there NONE is told, not answered.
    private static void askedNoneByTruths() {
        BearWitness x = Due.court("k00 b2001");
        Due.row(x, 0, 0, 2);
        Due.row(x, 5, MARKED);
        x.at(5, 0);
        Due.is("28 truths(0)", x.truths(0), 1);
        Due.is("37 asked()", x.asked(), Edge.NONE);
    }

    // 38 "The upper number that was told last", 39 "Its lower number": by truths(), odds(), mid(), no other one.
    private static void upperAndLowerByThree() {
        BearWitness x = marked();
        Edge.tellsPart("38 odds(4, 6)", x, () -> x.odds(4, 6), 11, 16);
        List<IntSupplier> others = othersOf(x);
        others.addAll(List.of(
            () -> x.lay(1, 0, 3), () -> x.at(1, 0), () -> x.mean(1), () -> x.bear(0, 0), () -> x.shown(63), () -> x.call(0),
            () -> x.cover(63), () -> x.apart(), () -> x.sure(0), () -> x.next(0)));
        others.addAll(List.of(
            () -> x.walls(0), () -> x.duel(0, 1), () -> x.odds(6, 6), () -> x.odds(0, 13), () -> x.mid(13), () -> x.truths(4)));
        for (int d = 0; d < others.size(); d++) {
            others.get(d).getAsInt();
            Due.is("38 upper() behind other call " + d, x.upper(), 11);
            Due.is("39 lower() behind other call " + d, x.lower(), 16);
        }
        Edge.tellsPart("38 mid(5)", x, () -> x.mid(5), 9773407, 2985984);
        Edge.tellsPart("38 truths(0)", x, () -> x.truths(0), 16, 1);
    }

    // ANSWERS: "the lower number above 0 (0 by 1)".
    private static void nothingIsNoughtByOne() {
        BearWitness x = Due.court("k01 b2001 g0001");
        Due.row(x, 0, 0, 2);
        x.odds(0, 1);
        Edge.tellsPart("34 odds(0, 12)", x, () -> x.odds(0, 12), 0, 1);
        x.odds(0, 1);
        Edge.tellsPart("34 odds(1, 5)", x, () -> x.odds(1, 5), 0, 1);
        x.odds(0, 1);
        Edge.tellsPart("35 mid(12)", x, () -> x.mid(12), 0, 1);
        x.odds(0, 1);
        Edge.tellsPart("28 truths(0), no set", x, () -> x.truths(0), 0, 1);
    }

    private static void countsAre(String why, BearWitness x, int... due) {
        for (int what = 0; what < 12; what++) Due.is("40 count(" + what + "), " + why, x.count(what), due[what]);
    }

    // 40 all of them at their least.
    private static void countLeast() {
        countsAre("new", new BearWitness(), 0, 0, 0, 0, 0, 0, 0, 0, 0, 0, 0, 0);
        countsAre("a BEAR of nothing", Due.court("k00b0000"), 1, 0, 0, 0, 0, 0, 0, 0, 0, 0, 1, 0);
    }

    // 40 all of them at their most.
    private static void countMost() {
        BearWitness x = Due.court("k63 g2963 g2963 g2963 g2963 g2963 g2963");
        for (int r = 0; r < 6; r++) x.row(r, 0);
        for (int t = 1; t < 4; t++) x.text(t, 0);
        for (int k = 0; k < 3; k++) x.keep(k);
        countsAre("all at most", x, 6, 63, 0, 0, 0, 54, 12, 6, 0, 6, 4, 3);
        for (int i = 0; i < 6; i++) x.turn(i);
        for (int d = 6; d < 40; d++) x.turn(0);
        Due.is("40 forty DEEDS", x.count(2), 40);
        x.undo(6);
        countsAre("all faces to the WALL", x, 6, 63, 6, 63, 0, 54, 12, 6, 0, 6, 4, 3);
        x = Due.court("k63 r2263 r2263 r2263 r2263 r2263 r2263");
        countsAre("all SHOWN", x, 6, 63, 0, 0, 63, 12, 12, 0, 6, 0, 1, 0);
    }

    // 40 "7 LOVED ones (ROYAL, too), 8 MOTHY ones (RICH, too)"
    private static void countOfKinds() {
        String letters = "blpmgr";
        int[] loved = {0, 1, 0, 0, 1, 0};
        int[] mothy = {0, 0, 0, 1, 0, 1};
        for (int kind = 0; kind < 6; kind++) {
            for (int n = 1; n <= 6; n++) {
                BearWitness x = Due.court("k00 " + (letters.charAt(kind) + "2000").repeat(n));
                Due.is("40 count(7), " + n + " of " + letters.charAt(kind), x.count(7), n * loved[kind]);
                Due.is("40 count(8), " + n + " of " + letters.charAt(kind), x.count(8), n * mothy[kind]);
            }
        }
        BearWitness x = marked();
        Due.is("40 count(0) lets asked() stay", x.count(0), 6);
        Due.is("40 asked()", x.asked(), MARKED);
    }

    // 40 "BAD."
    private static void countRefused() {
        BearWitness x = marked();
        BearWitness y = new BearWitness();
        for (int what : new int[] {-1, 12, 13, Edge.MIN, Edge.MAX}) {
            Edge.bad("40 count(" + what + ")", x, () -> x.count(what));
            Edge.bad("40 count(" + what + "), no BEARS", y, () -> y.count(what));
        }
    }

    // 41 "The latest FINDING", 42 "How often a FINDING (1 .. 5) was answered."
    private static void findingEach() {
        BearWitness x = Due.court("k00 b2001");
        x.row(0, 0);
        IntSupplier[] by = {
            () -> x.tear(1), () -> x.lay(0, 0, 1), () -> x.mark(0, 1), () -> x.mean(0), () -> x.row(0, -1)
        };
        int[] often = new int[6];
        int[] order = {5, 4, 3, 2, 1, 1, 1, 2, 3, 3, 4, 5, 1, 5};
        for (int f : order) {
            Due.is("41 FINDING " + f, by[f - 1].getAsInt(), Edge.FINDING);
            often[f]++;
            Due.is("41 finding()", x.finding(), f);
            for (int g = 1; g <= 5; g++) Due.is("42 findings(" + g + ")", x.findings(g), often[g]);
        }
        for (int d = 0; d < 300; d++) x.tear(1);
        Due.is("42 three hundred more", x.findings(1), often[1] + 300);
    }

    // 41, 42 other refusals are no FINDINGS, nor are answers.
    private static void findingsNotByOthers() {
        BearWitness x = Due.court("k00 b0901");
        x.tear(0);
        IntSupplier[] others = {
            () -> x.row(6, 1), () -> x.press(0), () -> x.eye(0), () -> x.call(0), () -> x.undo(1), () -> x.row(0, 2),
            () -> x.tells(0, 5), () -> x.text(4, 0), () -> x.lots(0, 1), () -> x.count(12), () -> x.findings(6), () -> x.tear(0)
        };
        for (int d = 0; d < others.length; d++) {
            others[d].getAsInt();
            Due.is("41 finding() behind other call " + d, x.finding(), 1);
            for (int f = 1; f <= 5; f++) Due.is("42 findings(" + f + ") behind other call " + d, x.findings(f), f == 1 ? 1 : 0);
        }
    }

    // 41 "The latest FINDING": whatever was answered since.
    private static void findingStays() {
        BearWitness x = marked();
        x.tear(4);
        List<IntSupplier> others = othersOf(x);
        others.addAll(List.of(
            () -> x.lay(1, 0, 3), () -> x.at(1, 0), () -> x.mean(1), () -> x.bear(0, 0), () -> x.shown(63), () -> x.call(0),
            () -> x.cover(63), () -> x.apart(), () -> x.truths(0), () -> x.sure(0)));
        others.addAll(List.of(
            () -> x.next(0), () -> x.walls(0), () -> x.duel(0, 1), () -> x.odds(0, 6), () -> x.mid(3), () -> x.undo(0)));
        for (int d = 0; d < others.size(); d++) {
            others.get(d).getAsInt();
            Due.is("41 finding() behind answered call " + d, x.finding(), 1);
            for (int f = 1; f <= 5; f++) Due.is("42 findings(" + f + ") behind answered call " + d, x.findings(f), f == 1 ? 1 : 0);
        }
    }

    // 42 "BAD."
    private static void findingsRefused() {
        BearWitness x = marked();
        x.tear(4);
        for (int f : new int[] {-1, 0, 6, 7, Edge.MIN, Edge.MAX}) Edge.bad("42 findings(" + f + ")", x, () -> x.findings(f));
    }

    private static long fold(long h, int... v) {
        for (int one : v) h = 31 * h + one;
        return h;
    }

    // 43 "h = 17; then h = 31 h + v for each v": all at first.
    private static void digestOfNew() {
        long h = fold(17, new int[12]);
        h = fold(h, -1, -1, -1);
        h = fold(h, -1, -1, -1, -1, -1, -1);
        h = fold(h, -1, -1, -1, -1);
        Due.is("43 new", new BearWitness().digest(), h);
    }

    // 43 in this order: count(), each BEAR, each kept COURT, each ROW, each TEXT; with Java's wrap-around.
    private static void digestOfFull() {
        BearWitness x = Due.court("k05 l1207 m0563");
        x.press(0);
        x.keep(0);
        x.turn(1);
        x.keep(2);
        x.row(1, 0);
        Due.row(x, 2, Edge.MIN, -1, Edge.MAX);
        Due.row(x, 5, 9);
        x.text(1, 0);
        Due.write(x, 3, "a\u00ff\u0080 ");
        long h = fold(17, 2, 5, 2, 2, 5, 8, 1, 1, 1, 3, 3, 2);
        h = fold(h, 1, 1, 3, 7, 0, 7);
        h = fold(h, 1, 0, 1, -9, -9, -9);
        h = fold(h, 3, 0, 5, 63, 1, 0);
        h = fold(h, -9, -9, -9, -9, -9, -9);
        h = fold(h, 1, -1, 2);
        h = fold(h, -1, 0, 3, Edge.MIN, -1, Edge.MAX, -1, -1, 1, 9);
        h = fold(h, 15, 'k', '0', '5', ' ', 'l', '1', '2', '0', '7', ' ', 'm', '0', '5', '6', '3');
        h = fold(h, 0, -1, 4, 'a', -1, -128, ' ');
        Due.is("43 of all", x.digest(), h);
    }

    // 43 "(-1: missing)": not the same as one of no places, or of no DEEDS.
    private static void digestMissingOrEmpty() {
        BearWitness x = Due.court("k00 b2000");
        long bare = x.digest();
        for (int r = 0; r < 6; r++) {
            x.row(r, 0);
            Due.is("43 a ROW of no places", x.digest() == bare ? 1 : 0, 0);
            x.tear(r);
            Due.is("43 and torn", x.digest(), bare);
        }
        x.keep(1);
        long h = fold(17, 1, 0, 0, 0, 0, 0, 2, 0, 0, 0, 1, 1);
        h = fold(h, 0, 2, 0, 0, 0, 0, -9, -9, -9, -9, -9, -9);
        h = fold(h, -1, 0, -1);
        h = fold(h, -1, -1, -1, -1, -1, -1);
        h = fold(h, 9, 'k', '0', '0', ' ', 'b', '2', '0', '0', '0', -1, -1, -1);
        Due.is("43 kept, no DEEDS", x.digest(), h);
        x.text(3, 0);
        h = fold(17, 1, 0, 0, 0, 0, 0, 2, 0, 0, 0, 2, 1);
        h = fold(h, 0, 2, 0, 0, 0, 0, -9, -9, -9, -9, -9, -9);
        h = fold(h, -1, 0, -1);
        h = fold(h, -1, -1, -1, -1, -1, -1);
        h = fold(h, 9, 'k', '0', '0', ' ', 'b', '2', '0', '0', '0', -1, -1, 0);
        Due.is("43 a TEXT of no places", x.digest(), h);
    }

    // 43 "asked() stays".
    private static void digestLetsAllStay() {
        BearWitness x = marked();
        x.odds(4, 6);
        x.tear(4);
        long h = x.digest();
        LongSupplier[] all = {() -> x.asked(), () -> x.upper(), () -> x.lower(), () -> x.finding(), () -> x.findings(1), () -> x.digest()};
        long[] due = {MARKED, 11, 16, 1, 1, h};
        for (int d = 0; d < all.length; d++) Due.is("43 digest() lets it stay: " + d, all[d].getAsLong(), due[d]);
    }
}
