/** The edges of what BEARS SEE and TELL (Terms), and of promises 13, 21, 22, sentence by sentence. */
public final class EdgeSightTest {
    private static final String LETTERS = "blpmgr";

    public static void main(String[] args) {
        inItsView();
        wearNine();
        eyesAndEven();
        lovedWhateverEyes();
        pandaNextAbove();
        richFromThree();
        mothyFromFive();
        royalAlwaysOne();
        faceToTheWall();
        eachKindEyesWear();
        tellsRefused();
        markLoved();
        markPanda();
        markMothyAndRich();
        markRoyal();
        markRefused();
        shownByMore();
        shownOfEachSet();
        shownRefused();
        Due.end("EdgeSightTest");
    }

    private static String two(int v) {
        return "" + v / 10 + v % 10;
    }

    private static BearWitness one(int done, char letter, int eyes, int wear, int view) {
        return Due.court("k" + two(done) + letter + eyes + wear + two(view));
    }

    /** What BEAR i TELLS of THINGS 0 to 5: 1, 0, - (nothing). */
    private static void tellsAre(String why, BearWitness x, int i, String due) {
        int told = 0;
        for (int thing = 0; thing < 6; thing++) {
            int want = due.charAt(thing) == '-' ? Edge.NONE : due.charAt(thing) - '0';
            Due.is(why + ": tells(" + i + ", " + thing + ")", x.tells(i, thing), want);
            if (want != Edge.NONE) told |= 1 << thing;
        }
        Due.is(why + ": bear(" + i + ", 5)", Edge.ofBear(x, i, 5), told);
    }

    private static void tellsAre(String s, String due) {
        tellsAre("21 \"" + s + "\"", Due.court(s), 0, due);
    }

    // "A BEAR SEES a THING, if it is in its VIEW": none, the first, the last, all; "1 if it was DONE, 0 if not".
    private static void inItsView() {
        tellsAre("k63b2000", "------");
        tellsAre("k63b2001", "1-----");
        tellsAre("k63b2032", "-----1");
        tellsAre("k63b2063", "111111");
        tellsAre("k00b2063", "000000");
        tellsAre("k01b2063", "100000");
        tellsAre("k32b2063", "000001");
        tellsAre("k31b2048", "----10");
    }

    // "its WEAR is below 9": each KIND.
    private static void wearNine() {
        for (char letter : LETTERS.toCharArray()) {
            tellsAre("k63" + letter + "2963", "------");
            tellsAre("k00" + letter + "0963", "------");
        }
        tellsAre("k33b2863", "100001");
        tellsAre("k33l2863", "100001");
        tellsAre("k33p2863", "100001");
        tellsAre("k33m2863", "011110");
        tellsAre("k33g2863", "111111");
        tellsAre("k33r2863", "------");
    }

    // "it has 2 EYES, or 1 and the THING's number is even" (0 is).
    private static void eyesAndEven() {
        tellsAre("k63b2063", "111111");
        tellsAre("k63b1063", "1-1-1-");
        tellsAre("k63b1042", "------");
        tellsAre("k63b0063", "------");
        tellsAre("k63m1063", "1-1-1-");
        tellsAre("k63m0063", "------");
        tellsAre("k63r1063", "1-1-1-");
        tellsAre("k63r0063", "------");
        tellsAre("k63p1063", "1-1-1-");
        tellsAre("k63p0063", "------");
    }

    // "a LOVED one (ROYAL, too) whatever EYES it has".
    private static void lovedWhateverEyes() {
        for (int eyes = 0; eyes <= 2; eyes++) {
            tellsAre("k21l" + eyes + "063", "101010");
            tellsAre("k21g" + eyes + "063", "111111");
            tellsAre("k21l" + eyes + "042", "-0-0-0");
            tellsAre("k21l" + eyes + "963", "------");
        }
    }

    // "a PANDA also one that is next above one in its VIEW (EYES as told)": none above the last.
    private static void pandaNextAbove() {
        tellsAre("k63p2000", "------");
        tellsAre("k63p2001", "11----");
        tellsAre("k63p2032", "-----1");
        tellsAre("k63p2016", "----11");
        tellsAre("k63p2021", "111111");
        tellsAre("k63p2009", "11-11-");
        tellsAre("k63p1001", "1-----");
        tellsAre("k63p1002", "--1---");
        tellsAre("k63p1042", "--1-1-");
        tellsAre("k63p0063", "------");
        tellsAre("k63b2001", "1-----");
        tellsAre("k63l2001", "1-----");
        tellsAre("k63m2001", "1-----");
        tellsAre("k63g2001", "1-----");
        tellsAre("k63r2001", "1-----");
    }

    // "a RICH one as a MOTHY one, but none at WEAR 3 or more".
    private static void richFromThree() {
        tellsAre("k21r2063", "101010");
        tellsAre("k21r2263", "101010");
        for (int wear = 3; wear <= 9; wear++) tellsAre("k21r2" + wear + "63", "------");
        tellsAre("k21m2363", "101010");
        BearWitness x = Due.court("k21r2263");
        x.press(0);
        tellsAre("21 RICH, PRESSED to 3", x, 0, "------");
        x.mend(0);
        tellsAre("21 RICH, MENDED to 2", x, 0, "101010");
    }

    // "a MOTHY one (RICH, too) the other way round at WEAR 5 or more".
    private static void mothyFromFive() {
        tellsAre("k21m2063", "101010");
        tellsAre("k21m2463", "101010");
        for (int wear = 5; wear <= 8; wear++) tellsAre("k21m2" + wear + "63", "010101");
        tellsAre("k21m2963", "------");
        tellsAre("k21b2563", "101010");
        tellsAre("k21l2563", "101010");
        tellsAre("k21p2563", "101010");
        BearWitness x = Due.court("k21m2463");
        x.press(0);
        tellsAre("21 MOTHY, PRESSED to 5", x, 0, "010101");
        x.mend(0);
        tellsAre("21 MOTHY, MENDED to 4", x, 0, "101010");
    }

    // "a ROYAL one always 1": of what it SEES.
    private static void royalAlwaysOne() {
        tellsAre("k00g0063", "111111");
        tellsAre("k63g0063", "111111");
        tellsAre("k00g0021", "1-1-1-");
        tellsAre("k00g0563", "111111");
        tellsAre("k00g0863", "111111");
        tellsAre("k00g0963", "------");
    }

    // "with its face to the WALL, it TELLS nothing (NONE). At first no face is to the WALL."
    private static void faceToTheWall() {
        BearWitness x = Due.court("k21 b2063 l2063 p2063 m2063 g2063 r2063");
        Due.is("21 at first no face is to the WALL", x.count(3), 0);
        String[] due = {"101010", "101010", "101010", "101010", "111111", "101010"};
        for (int i = 0; i < 6; i++) {
            x.turn(i);
            tellsAre("21 face to the WALL", x, i, "------");
            x.turn(i);
            tellsAre("21 and back", x, i, due[i]);
        }
    }

    /** What a BEAR TELLS of a THING, as the Terms say it. */
    private static char due(int kind, int eyes, int wear, int view, int thing, int done) {
        boolean inView = (view >> thing & 1) == 1;
        if (kind == 2 && thing > 0 && (view >> thing - 1 & 1) == 1) inView = true;
        boolean byEyes = kind == 1 || kind == 4 || eyes == 2 || eyes == 1 && thing % 2 == 0;
        boolean byWear = kind == 5 ? wear < 3 : wear < 9;
        if (!inView || !byEyes || !byWear) return '-';
        int truth = done >> thing & 1;
        if (kind == 4) return '1';
        return (char) ('0' + (kind == 3 && wear >= 5 ? 1 - truth : truth));
    }

    // All of these at once: each KIND, EYES, WEAR, VIEW; three sets that were DONE.
    private static void eachKindEyesWear() {
        for (int n = 0; n < 6 * 3 * 10 * 64; n++) {
            int kind = n / 1920;
            int eyes = n / 640 % 3;
            int wear = n / 64 % 10;
            int view = n % 64;
            for (int done : new int[] {0, 63, (view * 11 + 37) % 64}) {
                StringBuilder told = new StringBuilder();
                for (int thing = 0; thing < 6; thing++) told.append(due(kind, eyes, wear, view, thing, done));
                tellsAre("k" + two(done) + LETTERS.charAt(kind) + eyes + wear + two(view), told.toString());
            }
        }
    }

    // 21 "a THING (0 .. 5): 1, 0, NONE. BAD."
    private static void tellsRefused() {
        BearWitness x = Due.court("k01 b2001 l2001");
        x.bear(0, 3);
        for (int i : new int[] {-1, 2, 5, 6, Edge.MIN, Edge.MAX}) Edge.bad("21 tells(" + i + ", 0)", x, () -> x.tells(i, 0));
        for (int thing : new int[] {-1, 6, 7, Edge.MIN, Edge.MAX}) {
            Edge.bad("21 tells(0, " + thing + ")", x, () -> x.tells(0, thing));
            Edge.bad("21 tells(1, " + thing + ")", x, () -> x.tells(1, thing));
        }
        Edge.refused("21 tells(1, 5)", x, () -> x.tells(1, 5), Edge.NONE);
        BearWitness y = new BearWitness();
        for (int i = 0; i < 6; i++) {
            int who = i;
            Edge.bad("21 tells(" + i + ", 0), no BEARS", y, () -> y.tells(who, 0));
        }
    }

    // 13 "a LOVED one (ROYAL, too) how many THINGS are in its VIEW": whatever it SEES.
    private static void markLoved() {
        for (int view = 0; view < 64; view++) {
            Due.is("13 LOVED, VIEW " + view, one(0, 'l', 0, 9, view).mark(0, 1), Integer.bitCount(view));
            Due.is("13 ROYAL as LOVED, VIEW " + view, one(63, 'g', 0, 9, view).mark(0, 1), Integer.bitCount(view));
        }
        BearWitness x = one(0, 'l', 2, 0, 63);
        x.turn(0);
        Due.is("13 LOVED, face to the WALL", x.mark(0, 1), 6);
    }

    // 13 "a PANDA how many THINGS it SEES beyond its VIEW": those next above, by its EYES and WEAR.
    private static void markPanda() {
        int[] view = {0, 1, 2, 16, 21, 32, 42, 63, 31, 9};
        int[] byTwo = {0, 1, 1, 1, 3, 0, 2, 0, 1, 2};
        int[] byOne = {0, 0, 1, 0, 0, 0, 2, 0, 0, 1};
        for (int d = 0; d < view.length; d++) {
            Due.is("13 PANDA, 2 EYES, VIEW " + view[d], one(0, 'p', 2, 8, view[d]).mark(0, 2), byTwo[d]);
            Due.is("13 PANDA, 1 EYE, VIEW " + view[d], one(0, 'p', 1, 0, view[d]).mark(0, 2), byOne[d]);
            Due.is("13 PANDA, no EYES, VIEW " + view[d], one(0, 'p', 0, 0, view[d]).mark(0, 2), 0);
            Due.is("13 PANDA, WEAR 9, VIEW " + view[d], one(0, 'p', 2, 9, view[d]).mark(0, 2), 0);
        }
        BearWitness x = one(0, 'p', 2, 0, 21);
        x.turn(0);
        Due.is("13 PANDA, face to the WALL: it SEES", x.mark(0, 2), 3);
    }

    // 13 "how much WEAR it takes till it TELLS the other way round (0: it does)", "till that is 3 (0: it is)".
    private static void markMothyAndRich() {
        int[] mothy = {5, 4, 3, 2, 1, 0, 0, 0, 0, 0};
        int[] rich = {3, 2, 1, 0, 0, 0, 0, 0, 0, 0};
        for (int wear = 0; wear <= 9; wear++) {
            Due.is("13 MOTHY, WEAR " + wear, one(0, 'm', 2, wear, 63).mark(0, 3), mothy[wear]);
            Due.is("13 MOTHY that SEES nothing, WEAR " + wear, one(0, 'm', 0, wear, 0).mark(0, 3), mothy[wear]);
            Due.is("13 RICH as MOTHY, WEAR " + wear, one(0, 'r', 2, wear, 63).mark(0, 3), mothy[wear]);
            Due.is("13 RICH, WEAR " + wear, one(0, 'r', 2, wear, 63).mark(0, 5), rich[wear]);
            Due.is("13 RICH that SEES nothing, WEAR " + wear, one(0, 'r', 0, wear, 0).mark(0, 5), rich[wear]);
        }
    }

    // 13 "a ROYAL one how many THINGS that were not DONE it SEES".
    private static void markRoyal() {
        for (int view = 0; view < 64; view++) {
            Due.is("13 ROYAL, nothing DONE", one(0, 'g', 0, 8, view).mark(0, 4), Integer.bitCount(view));
            Due.is("13 ROYAL, all DONE", one(63, 'g', 2, 0, view).mark(0, 4), 0);
            Due.is("13 ROYAL, half DONE", one(21, 'g', 1, 0, view).mark(0, 4), Integer.bitCount(view & 42));
            Due.is("13 ROYAL, WEAR 9", one(0, 'g', 2, 9, view).mark(0, 4), 0);
        }
        BearWitness x = one(0, 'g', 2, 0, 63);
        x.turn(0);
        Due.is("13 ROYAL, face to the WALL: it SEES", x.mark(0, 4), 6);
    }

    // 13 "BAD: also KIND 0; UNLIKE." (UNLIKE: "a BEAR of another KIND")
    private static void markRefused() {
        String[] is = {"", "1", "2", "3", "14", "35"};
        for (int i = 0; i < 6; i++) {
            BearWitness x = Due.court("k21 b2001 l2001 p2001 m2001 g2001 r2001");
            x.bear(1, 3);
            int who = i;
            for (int kind = 1; kind < 6; kind++) {
                int of = kind;
                String call = "13 mark(" + i + ", " + kind + ")";
                if (is[i].indexOf('0' + kind) >= 0) Due.is(call, x.mark(i, kind) >= 0 ? 1 : 0, 1);
                else Edge.finds(call, x, () -> x.mark(who, of), Edge.UNLIKE);
            }
            for (int kind : new int[] {0, -1, 6, 7, Edge.MIN, Edge.MAX}) {
                Edge.bad("13 mark(" + i + ", " + kind + "): ahead of UNLIKE", x, () -> x.mark(who, kind));
            }
        }
        BearWitness x = Due.court("k21 b2001 l2001");
        for (int i : new int[] {-1, 2, 6, Edge.MIN, Edge.MAX}) {
            Edge.bad("13 mark(" + i + ", 1)", x, () -> x.mark(i, 1));
            Edge.bad("13 mark(" + i + ", 0)", x, () -> x.mark(i, 0));
        }
        BearWitness y = new BearWitness();
        Edge.bad("13 mark(0, 1), no BEARS", y, () -> y.mark(0, 1));
    }

    // "A THING is SHOWN .. if more of them TELL 1 than 0 of it."
    // 22 "those of which as many TELL 1 as 0, but some TELL, by asked()".
    private static void shownByMore() {
        // BEARS 0, 1 TELL 1 of THING 0; 2, 3 TELL 0 of it; 4, 5 nothing.
        BearWitness x = Due.court("k01 b2001 l2001 m2501 m2801 b2000 b0001");
        int[][] due = {
            {0, 0, 0}, {1, 1, 0}, {2, 1, 0}, {3, 1, 0}, {4, 0, 0}, {8, 0, 0}, {5, 0, 1}, {7, 1, 0}, {13, 0, 0},
            {15, 0, 1}, {16, 0, 0}, {48, 0, 0}, {17, 1, 0}, {20, 0, 0}, {21, 0, 1}, {63, 0, 1}, {62, 0, 0}, {59, 1, 0}
        };
        for (int[] d : due) Edge.tells("22 shown(" + d[0] + ")", x, () -> x.shown(d[0]), d[1], d[2]);
        x.turn(2);
        Edge.tells("22 shown(15), one to the WALL", x, () -> x.shown(15), 1, 0);
        x.turn(0);
        Edge.tells("22 shown(15), two to the WALL", x, () -> x.shown(15), 0, 1);
        x.turn(3);
        x.turn(1);
        Edge.tells("22 shown(63), all to the WALL", x, () -> x.shown(63), 0, 0);
    }

    // 22 each set of BEARS, the empty one and all of them: as tells() tells.
    private static void shownOfEachSet() {
        for (String s : new String[] {Edge.ALL_KINDS, "k42 m2563 p1021 g0037 b2063 m1807 l0056", "k07 b2003 m2506"}) {
            BearWitness x = Due.court(s);
            int n = x.count(0);
            for (int set = 0; set < 1 << n; set++) {
                int[] more = new int[6];
                int some = 0;
                for (int d = 0; d < 6 * n; d++) {
                    int t = told(s, d / 6, d % 6);
                    if ((set >> d / 6 & 1) == 0 || t == Edge.NONE) continue;
                    more[d % 6] += t == 1 ? 1 : -1;
                    some |= 1 << d % 6;
                }
                int shown = 0;
                int tied = 0;
                for (int thing = 0; thing < 6; thing++) {
                    if (more[thing] > 0) shown |= 1 << thing;
                    if (more[thing] == 0) tied |= some & 1 << thing;
                }
                int called = set;
                Edge.tells("22 shown(" + set + ") of \"" + s + "\"", x, () -> x.shown(called), shown, tied);
            }
        }
    }

    private static int told(String s, int i, int thing) {
        String bears = s.replace(" ", "");
        int at = 3 + 5 * i;
        int done = Integer.parseInt(bears.substring(1, 3));
        int view = Integer.parseInt(bears.substring(at + 3, at + 5));
        char t = due(LETTERS.indexOf(bears.charAt(at)), bears.charAt(at + 1) - '0', bears.charAt(at + 2) - '0', view, thing, done);
        return t == '-' ? Edge.NONE : t - '0';
    }

    // 22 "BAD: also a set of other BEARS; STATE: no BEARS."
    private static void shownRefused() {
        BearWitness x = Due.court("k01 b2001 l2001 m2501");
        x.shown(5);
        for (int set : new int[] {8, 9, 16, 32, 63, 64, 128, -1, -8, Edge.MIN, Edge.MAX}) {
            Edge.bad("22 shown(" + set + ")", x, () -> x.shown(set));
        }
        Edge.tells("22 all of three", x, () -> x.shown(7), 1, 0);
        BearWitness y = Due.court("k01 b2001");
        Edge.bad("22 shown(2) of one", y, () -> y.shown(2));
        Edge.bad("22 shown(3) of one", y, () -> y.shown(3));
        Edge.tells("22 shown(1) of one", y, () -> y.shown(1), 1, 0);
        BearWitness z = Due.court(Edge.ALL_KINDS);
        for (int set : new int[] {64, 65, 127, -1, Edge.MIN, Edge.MAX}) {
            Edge.bad("22 shown(" + set + ") of six", z, () -> z.shown(set));
        }
        BearWitness w = new BearWitness();
        Edge.refused("22 shown(0), no BEARS", w, () -> w.shown(0), Edge.STATE);
        for (int set : new int[] {64, -1, Edge.MIN, Edge.MAX, 1, 63}) {
            Edge.bad("22 shown(" + set + "), no BEARS: ahead of STATE", w, () -> w.shown(set));
        }
    }
}
