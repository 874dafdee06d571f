import java.util.regex.Matcher;
import java.util.regex.Pattern;

/** The edges that promises 8 to 13 name, and those of what a COURT is, sentence by sentence. */
public final class EdgeTextsTest {
    private static final int[] NO_TEXT = {-1, 4, 5, 60, Edge.MIN, Edge.MAX};
    private static final String SIX = "k00b0000l0000p0000m0000g0000r0000";

    public static void main(String[] args) {
        textSizes();
        textOfFour();
        putOfFour();
        textRefused();
        putCut();
        putPlaces();
        putRefused();
        faultNone();
        faultOfFirstItem();
        faultOfBears();
        faultWithinItems();
        faultAboveSixtyThree();
        faultOfSeventh();
        faultAtTheEnd();
        faultOfBytes();
        faultOfEachByte();
        faultOfEachTwoBytes();
        faultOfEachPart();
        faultRefused();
        courtAnew();
        courtRefused();
        bearEdges();
        bearRefused();
        Due.end("EdgeTextsTest");
    }

    // Terms: "TEXTS 0 .. 3 rows of 0 to 60 bytes". 8 "A TEXT is there with n blanks: n."
    private static void textSizes() {
        for (int n : new int[] {0, 1, 59, 60}) {
            BearWitness x = new BearWitness();
            for (int t = 0; t < 4; t++) Due.is("8 text(" + t + ", " + n + ")", x.text(t, n), n);
            Due.is("8 TEXTS of " + n, x.count(10), 4);
            Edge.textIs("8 text(0, " + n + ")", x, 0, " ".repeat(n));
            Edge.textIs("8 text(3, " + n + ")", x, 3, " ".repeat(n));
        }
        BearWitness x = new BearWitness();
        Due.write(x, 1, "abc");
        Due.is("8 anew, smaller", x.text(1, 2), 2);
        Edge.textIs("8 anew, smaller", x, 1, "  ");
        Due.write(x, 1, "abc");
        Due.is("8 anew, as great", x.text(1, 3), 3);
        Edge.textIs("8 anew, as great", x, 1, "   ");
        Due.write(x, 1, "abc");
        Due.is("8 anew, empty", x.text(1, 0), 0);
        Edge.textIs("8 anew, empty", x, 1, "");
        Due.is("8 anew, greater", x.text(1, 4), 4);
        Edge.textIs("8 anew, greater", x, 1, "    ");
    }

    // 8 "A TEXT is there with n blanks": the other three, all of them full, stay.
    private static void textOfFour() {
        int[][] none = new int[6][];
        for (int t = 0; t < 4; t++) {
            int[][] texts = new int[4][];
            BearWitness x = Edge.fullTexts(texts);
            Edge.holds("9 four full TEXTS", x, none, texts);
            for (int n : new int[] {60, 59, 1, 0, 60}) {
                Due.is("8 text(" + t + ", " + n + ") of four", x.text(t, n), n);
                texts[t] = new int[n];
                for (int i = 0; i < n; i++) texts[t][i] = 32;
                Edge.holds("8 text(" + t + ", " + n + ") of four", x, none, texts);
            }
        }
    }

    // 9 "Byte i of a TEXT is v": no other byte of any TEXT; ROWS neither.
    private static void putOfFour() {
        int[][] none = new int[6][];
        int[][] texts = new int[4][];
        BearWitness x = Edge.fullTexts(texts);
        for (int t = 0; t < 4; t++) {
            for (int i : new int[] {0, 1, 30, 58, 59}) {
                Due.is("9 put(" + t + ", " + i + ", 7) of four", x.put(t, i, 7), texts[t][i] + 1000);
                texts[t][i] = 7;
                Edge.holds("9 put(" + t + ", " + i + ", 7) of four", x, none, texts);
            }
        }
    }

    // 8 "BAD: also n above 60; SIZE: below 0." (BAD ahead of a FINDING.)
    private static void textRefused() {
        for (int t : NO_TEXT) {
            BearWitness x = new BearWitness();
            Edge.bad("8 text(" + t + ", 0)", x, () -> x.text(t, 0));
            Edge.bad("8 text(" + t + ", 60)", x, () -> x.text(t, 60));
            Edge.bad("8 text(" + t + ", 61)", x, () -> x.text(t, 61));
            Edge.bad("8 text(" + t + ", -1): ahead of SIZE", x, () -> x.text(t, -1));
        }
        BearWitness x = new BearWitness();
        Due.write(x, 2, "ab");
        for (int n : new int[] {61, 62, 100, Edge.MAX}) {
            Edge.bad("8 text(2, " + n + ")", x, () -> x.text(2, n));
            Edge.bad("8 text(0, " + n + ")", x, () -> x.text(0, n));
        }
        for (int n : new int[] {-1, -2, -60, Edge.MIN}) {
            Edge.finds("8 text(2, " + n + ")", x, () -> x.text(2, n), Edge.SIZE);
            Edge.finds("8 text(0, " + n + ")", x, () -> x.text(0, n), Edge.SIZE);
        }
        Edge.textIs("8 refused: the TEXT stays", x, 2, "ab");
    }

    // 9 "v, cut to a byte (-128 .. 127): what it was, and 1000 more."
    private static void putCut() {
        int[] v = {127, 128, 129, 254, 255, 256, 257, -1, -127, -128, -129, -256, -257, 32768, 65535, Edge.MAX, Edge.MIN, 0};
        int[] cut = {127, -128, -127, -2, -1, 0, 1, -1, -127, -128, 127, 0, -1, 0, -1, -1, 0, 0};
        BearWitness x = new BearWitness();
        x.text(3, 2);
        int was = 32;
        for (int d = 0; d < v.length; d++) {
            Due.is("9 put(3, 1, " + v[d] + ")", x.put(3, 1, v[d]), was + 1000);
            was = cut[d];
        }
        Due.is("9 the last one", x.put(3, 1, 5), 1000);
        Due.is("9 the other place", x.put(3, 0, 5), 1032);
        Due.is("9 asked() stays", x.asked(), 0);
    }

    // 9 "Byte i of a TEXT": the first, the last.
    private static void putPlaces() {
        BearWitness x = new BearWitness();
        x.text(0, 60);
        x.text(3, 1);
        Due.is("9 put(0, 0, 65)", x.put(0, 0, 65), 1032);
        Due.is("9 put(0, 59, 66)", x.put(0, 59, 66), 1032);
        Due.is("9 put(3, 0, 67)", x.put(3, 0, 67), 1032);
        Edge.textIs("9 put", x, 0, "A" + " ".repeat(58) + "B");
        Edge.textIs("9 put", x, 3, "C");
    }

    // 9 "BAD; NOTHING; BEYOND."
    private static void putRefused() {
        BearWitness x = new BearWitness();
        Due.write(x, 1, "abc");
        x.text(2, 0);
        for (int i : new int[] {-1, 3, 59, 60, Edge.MIN, Edge.MAX}) {
            Edge.finds("9 put(1, " + i + ", 9)", x, () -> x.put(1, i, 9), Edge.BEYOND);
        }
        Edge.finds("9 put(2, 0, 9), no places", x, () -> x.put(2, 0, 9), Edge.BEYOND);
        Edge.finds("9 put(3, 0, 9), missing", x, () -> x.put(3, 0, 9), Edge.NOTHING);
        Edge.finds("9 put(3, -1, 9): NOTHING ahead of BEYOND", x, () -> x.put(3, -1, 9), Edge.NOTHING);
        Edge.finds("9 put(3, 60, 9): NOTHING ahead of BEYOND", x, () -> x.put(3, 60, 9), Edge.NOTHING);
        Edge.textIs("9 refused: the TEXT stays", x, 1, "abc");
        BearWitness y = new BearWitness();
        for (int t : NO_TEXT) {
            Edge.bad("9 put(" + t + ", 0, 9)", y, () -> y.put(t, 0, 9));
            Edge.bad("9 put(" + t + ", -1, 9): ahead of BEYOND", y, () -> y.put(t, -1, 9));
        }
    }

    /** fault() tells this, and lets all stay; court() hangs on it. */
    private static void faultIs(String s, int want) {
        BearWitness x = new BearWitness();
        Due.write(x, 2, s);
        long before = x.digest();
        String call = "10 fault of \"" + s + "\"";
        Due.is(call, x.fault(2), want);
        Due.is(call + ": all stays", x.digest(), before);
        if (want == Edge.NONE) {
            Due.is("11 court by \"" + s + "\"", x.court(2), bearsIn(s));
        } else {
            Edge.refused("11 court by \"" + s + "\", a FAULT", x, () -> x.court(2), Edge.STATE);
        }
    }

    private static int bearsIn(String s) {
        return s.replaceAll("[^blpmgr]", "").length();
    }

    // 10 "NONE: there is none." Terms: "blanks (32) ahead, between, behind as many as wanted";
    // "two figures, 00 .. 63", "1 to 6", "EYES (0 .. 2)", "WEAR (0 .. 9)".
    private static void faultNone() {
        faultIs("k00b0000", Edge.NONE);
        faultIs("k63b2963", Edge.NONE);
        faultIs("k09b1009", Edge.NONE);
        faultIs("k59b1859", Edge.NONE);
        faultIs(" k00b0000", Edge.NONE);
        faultIs("k00 b0000", Edge.NONE);
        faultIs("k00b0000 ", Edge.NONE);
        faultIs("k00b0000 l0000", Edge.NONE);
        faultIs(" ".repeat(52) + "k00b0000", Edge.NONE);
        faultIs("k00" + " ".repeat(52) + "b0000", Edge.NONE);
        faultIs("k00b0000" + " ".repeat(52), Edge.NONE);
        faultIs(SIX, Edge.NONE);
        faultIs("   k00   b0000   l0000   p0000   m0000   g0000   r0000      ", Edge.NONE);
        for (char letter : "blpmgr".toCharArray()) {
            faultIs("k00" + letter + "0000", Edge.NONE);
            faultIs("k63 " + (letter + "2963").repeat(6), Edge.NONE);
        }
    }

    // Terms: "First k (107)": "a letter .. that is none such: its place".
    private static void faultOfFirstItem() {
        faultIs("b0000", 0);
        faultIs("K00b0000", 0);
        faultIs("j00b0000", 0);
        faultIs("l00b0000", 0);
        faultIs("00b0000", 0);
        faultIs("  b0000", 2);
        faultIs("\tk00b0000", 0);
        faultIs("kk00b0000", 1);
        faultIs("k-1b0000", 1);
        faultIs("k/0b0000", 1);
        faultIs("k:0b0000", 1);
        faultIs("k0/b0000", 2);
        faultIs("k0:b0000", 2);
        faultIs("k6xb0000", 2);
        faultIs("k7xb0000", 2);
        faultIs("k0b0000", 2);
    }

    // Terms: "a letter, its EYES (0 .. 2), its WEAR (0 .. 9), one figure each, the set (two figures, 00 .. 63)".
    private static void faultOfBears() {
        for (char letter : "acdefhijknoqstuvwxyzBLPMGR059\t-".toCharArray()) {
            faultIs("k00" + letter + "0000", 3);
            faultIs("k00 b0000 " + letter + "0000", 10);
        }
        faultIs("k00b3000", 4);
        faultIs("k00b9000", 4);
        faultIs("k00b/000", 4);
        faultIs("k00b:000", 4);
        faultIs("k00bb000", 4);
        faultIs("k00b0/00", 5);
        faultIs("k00b0:00", 5);
        faultIs("k00b0a00", 5);
        faultIs("k00b00/0", 6);
        faultIs("k00b00:0", 6);
        faultIs("k00b000/", 7);
        faultIs("k00b000:", 7);
        faultIs("k00b00009", 8);
        faultIs("k00b0000k00", 8);
        faultIs("k00b000b0000", 7);
        faultIs("k00b0000l3000", 9);
        faultIs("k00b0000l0000p0000m0000g0000r3000", 29);
    }

    // Terms: blanks "none within items (an item: a letter and all its figures)".
    private static void faultWithinItems() {
        faultIs("k 00b0000", 1);
        faultIs("k0 0b0000", 2);
        faultIs("k00b 0000", 4);
        faultIs("k00b0 000", 5);
        faultIs("k00b00 00", 6);
        faultIs("k00b000 0", 7);
        faultIs("k00b0000 l 0000", 10);
        faultIs("k00b0000 l000 0", 13);
    }

    // Terms: "two figures above 63: the place of the first of both".
    private static void faultAboveSixtyThree() {
        for (int v = 64; v < 100; v++) {
            faultIs("k" + v + "b0000", 1);
            faultIs("k" + v, 1);
            faultIs(" k00 b00" + v, 8);
            faultIs("k00b0000l00" + v + " ", 11);
            faultIs("k" + v + "b00" + v, 1);
        }
        faultIs("k64x", 1);
        faultIs("k00b0064x", 6);
        faultIs("k00b3064", 4);
    }

    // Terms: "a seventh BEAR: its place".
    private static void faultOfSeventh() {
        for (char letter : "blpmgr".toCharArray()) {
            faultIs(SIX + letter + "0000", 33);
            faultIs(SIX + letter, 33);
            faultIs(SIX + "  " + letter + "0000 ", 35);
        }
        faultIs(SIX + "x", 33);
        faultIs(SIX + " 0", 34);
        faultIs(SIX + "b0000l0000p0000m0000g0000", 33);
        faultIs(SIX, Edge.NONE);
        faultIs(SIX + " ".repeat(27), Edge.NONE);
    }

    // Terms: "the TEXT's size, if its end comes too early, or there are blanks alone".
    private static void faultAtTheEnd() {
        for (int n = 0; n <= 60; n++) faultIs(" ".repeat(n), n);
        String s = "k00b0000";
        for (int n = 0; n < s.length(); n++) faultIs(s.substring(0, n), n);
        for (int n = 9; n < 13; n++) faultIs("k00b0000l0000".substring(0, n), n);
        faultIs("k00 ", 4);
        faultIs("k00" + " ".repeat(57), 60);
        faultIs("k7", 2);
        faultIs("k00b009", 7);
        faultIs(" ".repeat(52) + "k00b000", 59);
        faultIs(" ".repeat(53) + "k00b000", 60);
        faultIs(" ".repeat(59) + "k", 60);
        faultIs(" ".repeat(59) + "b", 59);
    }

    // Terms: "k (107)", "b, 98", ..; 9 "cut to a byte": bytes alone count.
    private static void faultOfBytes() {
        BearWitness x = new BearWitness();
        int[] bytes = {107 + 256, 48 - 256, 48 + 512, 108 - 512, 50 + 256, 57 - 256, 54 + 256, 51 + 65536};
        x.text(0, 8);
        for (int i = 0; i < 8; i++) x.put(0, i, bytes[i]);
        Due.is("10 of cut bytes", x.fault(0), Edge.NONE);
        Due.is("11 of cut bytes", x.court(0), 1);
        Due.is("11 of cut bytes: KIND", Edge.ofBear(x, 0, 0), 1);
        Due.is("11 of cut bytes: EYES", Edge.ofBear(x, 0, 1), 2);
        Due.is("11 of cut bytes: WEAR", Edge.ofBear(x, 0, 2), 9);
        Due.is("11 of cut bytes: VIEW", Edge.ofBear(x, 0, 3), 63);
        x.put(0, 0, 107 - 128);
        Due.is("10 a byte below 0", x.fault(0), 0);
        x.put(0, 0, 107);
        x.put(0, 7, 160);
        Due.is("10 160 is no blank", x.fault(0), 7);
    }

    private static final Pattern PLAIN = Pattern.compile(" *k[0-9][0-9] *(?:[blpmgr][0-2][0-9][0-9][0-9] *){1,6}");
    private static final Pattern ABOVE = Pattern.compile("(?:k|[blpmgr][0-2][0-9])(6[4-9]|[789][0-9])");

    /** The FAULT by the shapes of texts alone: the first byte by which none could go on so. */
    private static int faultBy(String s) {
        int fault = Edge.NONE;
        for (int n = 1; n <= s.length() && fault == Edge.NONE; n++) {
            Matcher m = PLAIN.matcher(s.substring(0, n));
            if (!m.matches() && !m.hitEnd()) fault = n - 1;
        }
        boolean whole = PLAIN.matcher(s).matches();
        if (fault == Edge.NONE && !whole) fault = s.length();
        Matcher above = ABOVE.matcher(s);
        if (above.find() && (fault == Edge.NONE || above.start(1) + 1 < fault)) fault = above.start(1);
        return fault;
    }

    // Terms: "A FAULT is the first place at which it can't go on so": each byte at each place.
    private static void faultOfEachByte() {
        String[] texts = {" k63 b2963", "k00l1005p2059m0930", "k21b2015l0060p1021m2631g1763r2015 "};
        for (String s : texts) {
            for (int i = 0; i < s.length(); i++) {
                BearWitness x = new BearWitness();
                Due.write(x, 0, s);
                for (int b = 0; b < 256; b++) {
                    x.put(0, i, b);
                    String other = s.substring(0, i) + (char) b + s.substring(i + 1);
                    Due.is("10 fault of \"" + s + "\", byte " + i + " being " + b, x.fault(0), faultBy(other));
                    if (b == 127 || b == 191) {
                        x = new BearWitness();
                        Due.write(x, 0, s);
                    }
                }
            }
        }
    }

    // Terms: "the first place at which it can't go on so": two bytes that follow one another, each of the telling ones.
    private static void faultOfEachTwoBytes() {
        char[] telling = " /01235679:;@K`abjklprz\u0000\u00b9\u00ff".toCharArray();
        String[] texts = {"k63b2963 ", "k00 l1005p2059"};
        for (String s : texts) {
            for (int i = 0; i + 1 < s.length(); i++) {
                for (char one : telling) {
                    BearWitness x = new BearWitness();
                    Due.write(x, 3, s);
                    x.put(3, i, one);
                    for (char two : telling) {
                        x.put(3, i + 1, two);
                        String other = s.substring(0, i) + one + two + s.substring(i + 2);
                        Due.is("10 fault of \"" + other + "\"", x.fault(3), faultBy(other));
                        String end = s.substring(0, i) + one + two;
                        if (i + 2 == s.length() || two != telling[i % telling.length]) continue;
                        BearWitness y = new BearWitness();
                        Due.write(y, 1, end);
                        Due.is("10 fault of \"" + end + "\"", y.fault(1), faultBy(end));
                    }
                }
            }
        }
    }

    // Terms: each beginning of a TEXT, each with a blank more, each with one byte less.
    private static void faultOfEachPart() {
        String[] texts = {" k63 b2963 ", "k00l1005p2059m0930", "k21b2015l0060p1021m2631g1763r2015"};
        for (String s : texts) {
            for (int i = 0; i <= s.length(); i++) {
                faultIs(s.substring(0, i), faultBy(s.substring(0, i)));
                faultIs(s.substring(i), faultBy(s.substring(i)));
                String blank = s.substring(0, i) + " " + s.substring(i);
                faultIs(blank, faultBy(blank));
                if (i == s.length()) continue;
                String less = s.substring(0, i) + s.substring(i + 1);
                faultIs(less, faultBy(less));
            }
        }
    }

    // 10, 11 "BAD; NOTHING."
    private static void faultRefused() {
        BearWitness x = new BearWitness();
        for (int t : NO_TEXT) {
            Edge.bad("10 fault(" + t + ")", x, () -> x.fault(t));
            Edge.bad("11 court(" + t + ")", x, () -> x.court(t));
        }
        BearWitness y = new BearWitness();
        Due.write(y, 1, "k00b0000");
        for (int t : new int[] {0, 2, 3}) {
            Edge.finds("10 fault(" + t + "), missing", y, () -> y.fault(t), Edge.NOTHING);
            Edge.finds("11 court(" + t + "), missing", y, () -> y.court(t), Edge.NOTHING);
        }
        BearWitness z = new BearWitness();
        for (int t = 0; t < 4; t++) {
            Due.write(z, t, "k0" + t + "b000" + t);
            Due.is("10 fault(" + t + ")", z.fault(t), Edge.NONE);
            Due.is("11 court(" + t + ")", z.court(t), 1);
            Due.is("11 court(" + t + "): DONE", z.count(1), t);
        }
    }

    // 11 "anew: no face to the WALL, no DEEDS; kept COURTS go"; ROWS and TEXTS stay.
    private static void courtAnew() {
        BearWitness x = Due.court(Edge.ALL_KINDS);
        Due.row(x, 0, 5);
        for (int i = 0; i < 6; i++) x.turn(i);
        x.press(0);
        x.mend(3);
        x.eye(5);
        for (int k = 0; k < 3; k++) x.keep(k);
        Due.write(x, 3, "k63m1363");
        Due.is("11 court(3)", x.court(3), 1);
        int[] due = {1, 63, 0, 0, 21, 3, 1, 0, 1, 1, 2, 0};
        for (int what = 0; what < 12; what++) Due.is("11 count(" + what + ") then", x.count(what), due[what]);
        Edge.bad("11 the others are there no more", x, () -> x.bear(1, 0));
        Edge.bad("11 no DEEDS", x, () -> x.undo(1));
        for (int k = 0; k < 3; k++) {
            int place = k;
            Edge.finds("11 on(" + k + "): kept COURTS go", x, () -> x.on(place), Edge.NOTHING);
        }
        Due.is("11 court(0) again", x.court(0), 6);
        Due.is("11 as at first: no WALL", x.count(3), 0);
        Due.is("11 as at first: WEAR", x.count(5), 13);
        Due.is("11 as at first: EYES", x.count(6), 8);
        Edge.rowIs("11 ROWS stay", x, 0, 5);
        Edge.textIs("11 TEXTS stay", x, 3, "k63m1363");
    }

    // 11 "BAD; NOTHING; STATE: a FAULT. (STATE behind NOTHING.)", and the COURT stays.
    private static void courtRefused() {
        BearWitness x = Due.court(Edge.ALL_KINDS);
        x.press(0);
        x.keep(1);
        x.turn(2);
        x.odds(4, 6);
        x.bear(1, 3);
        for (String s : new String[] {"", "  ", "k00", SIX + "b0000", "k64b0000", "k00b3000"}) {
            Due.write(x, 1, s);
            Edge.refused("11 court by \"" + s + "\"", x, () -> x.court(1), Edge.STATE);
        }
        Edge.finds("11 missing", x, () -> x.court(2), Edge.NOTHING);
        Edge.bad("11 court(4)", x, () -> x.court(4));
        Due.is("11 DEEDS stay: undo(1)", x.undo(1), 1);
        Due.is("11 DEEDS stay: the WALL", x.count(3), 0);
        Due.is("11 kept ones stay: on(1)", x.on(1), 1);
        Due.is("11 kept ones stay: WEAR", x.count(5), 14);
        Due.is("11 kept ones stay: undo(0)", x.undo(0), 1);
        Due.is("11 kept ones stay: WEAR at first", x.count(5), 13);
    }

    // 12 "0 the KIND, 1 its EYES, 2 its WEAR, 3 its VIEW (bits), 4 .. the WALL (1, 0), 5 THINGS that it TELLS of".
    private static void bearEdges() {
        BearWitness x = Due.court("k00 b0000 l2963 p2932 m1900 g0963 r0363");
        int[][] due = {
            {0, 0, 0, 0, 0, 0}, {1, 2, 9, 63, 0, 0}, {2, 2, 9, 32, 0, 0},
            {3, 1, 9, 0, 0, 0}, {4, 0, 9, 63, 0, 0}, {5, 0, 3, 63, 0, 0}
        };
        for (int i = 0; i < 6; i++) {
            for (int what = 0; what < 6; what++) {
                Due.is("12 asked() of bear(" + i + ", " + what + ")", Edge.ofBear(x, i, what), due[i][what]);
            }
        }
        x = Due.court("k00 b1063 l0832 p2021 m2801 g0863 r2263");
        int[] tells = {21, 32, 63, 1, 63, 63};
        for (int i = 0; i < 6; i++) Due.is("12 TELLS of, bear(" + i + ", 5)", Edge.ofBear(x, i, 5), tells[i]);
        for (int i = 0; i < 6; i++) {
            Due.is("12 turn(" + i + ")", x.turn(i), 1);
            Due.is("12 face to the WALL, bear(" + i + ", 4)", Edge.ofBear(x, i, 4), 1);
            Due.is("12 TELLS of nothing, bear(" + i + ", 5)", Edge.ofBear(x, i, 5), 0);
            Due.is("12 its VIEW stays, bear(" + i + ", 3)", Edge.ofBear(x, i, 3) == 0 ? 1 : 0, 0);
        }
        for (int i = 0; i < 6; i++) {
            x.turn(i);
            Due.is("12 turned back, bear(" + i + ", 4)", Edge.ofBear(x, i, 4), 0);
            Due.is("12 turned back, bear(" + i + ", 5)", Edge.ofBear(x, i, 5), tells[i]);
        }
    }

    // 12 "BAD.": no such BEAR, no such number.
    private static void bearRefused() {
        BearWitness x = Due.court("k01 b2001 l2001");
        x.bear(0, 3);
        for (int i : new int[] {-1, 2, 5, 6, Edge.MIN, Edge.MAX}) {
            Edge.bad("12 bear(" + i + ", 0)", x, () -> x.bear(i, 0));
            Edge.bad("12 bear(" + i + ", 5)", x, () -> x.bear(i, 5));
        }
        BearWitness y = Due.court(Edge.ALL_KINDS);
        for (int what : new int[] {-1, 6, 7, Edge.MIN, Edge.MAX}) {
            Edge.bad("12 bear(0, " + what + ")", y, () -> y.bear(0, what));
            Edge.bad("12 bear(5, " + what + ")", y, () -> y.bear(5, what));
        }
        BearWitness z = new BearWitness();
        for (int i = -1; i < 7; i++) {
            int who = i;
            Edge.bad("12 bear(" + i + ", 0), no BEARS", z, () -> z.bear(who, 0));
        }
    }
}
