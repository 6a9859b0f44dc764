/** Promises 12 to 17. */
public final class QuestionsTest {
    private static final int NO_SUCH = BurdenTunes.NO_SUCH, BAD_VALUE = BurdenTunes.BAD_VALUE;
    private static final int NONE = BurdenTunes.NONE;
    private static final int MIN = Integer.MIN_VALUE, MAX = Integer.MAX_VALUE;

    public static void main(String[] args) {
        promise12Line();
        promise12CheapestPhrase();
        promise13Phrase();
        promises12And13AfterLongerOnes();
        promise14IsStressed();
        promise15KindOf();
        promise16Count();
        promise17At();
        questionsChangeNothing();
        Due.end();
    }

    private static void promise12Line() {
        BurdenTunes x = Due.with("xXx;XX;xxxx;X", "|sw");
        int[] order = {1, 0, 1, 3, 1, 3};
        for (int line : order) {
            x.sing(line);
        }
        int[][] want = {{3, 1, 1, 0}, {2, 2, 3, 1}, {4, 0, 0, 0}, {1, 1, 2, 1}};
        for (int line = 0; line < 4; line++) {
            for (int what = 0; what < 4; what++) {
                Due.is("line(" + line + ", " + what + ")", x.line(line, what), want[line][what]);
            }
        }
        for (int line : new int[] {-1, 4, MIN, MAX}) {
            for (int what = -1; what <= 5; what++) {
                Due.is("line(" + line + ", " + what + ")", x.line(line, what), NO_SUCH);
            }
        }
        for (int what : new int[] {-1, 5, MIN, MAX}) {
            Due.is("line(0, " + what + ")", x.line(0, what), BAD_VALUE);
        }
        BurdenTunes y = Due.with("XXXXXXXXXXXXXXXX");
        Due.is("line(0, 0) of 16", y.line(0, 0), 16);
        Due.is("line(0, 1) of 16", y.line(0, 1), 16);
        Due.is("line(0, 4) without phrases", y.line(0, 4), NONE);
        Due.is("line(0, 5) without phrases", y.line(0, 5), BAD_VALUE);
        for (int i = 0; i < 40; i++) {
            y.sing(0);
        }
        Due.is("line(0, 2) when full", y.line(0, 2), 40);
    }

    private static void promise12CheapestPhrase() {
        // xX costs 14 on sw, 0 on ws, 0 on .ws, and can be laid on no phrase of one beat.
        BurdenTunes x = Due.with("xX;xxxx;x", "|s;|sw;|ws;|.ws;|.");
        Due.is("line(0, 4)", x.line(0, 4), 2);
        Due.is("line(1, 4) that cannot be laid", x.line(1, 4), NONE);
        // x costs 7 on s, 3 on sw (the strong beat stays free), 1 on ws (drawn over both).
        Due.is("line(2, 4)", x.line(2, 4), 2);
        x.dropPhrase(2);
        Due.is("line(0, 4) then", x.line(0, 4), 2);
        x.dropPhrase(2);
        Due.is("line(0, 4) then", x.line(0, 4), 1);
        Due.is("line(2, 4): s costs 7, sw costs 3", x.line(2, 4), 1);
        x.dropPhrase(1);
        Due.is("line(0, 4) without a phrase for it", x.line(0, 4), NONE);
        Due.is("line(2, 4)", x.line(2, 4), 0);
        x.play(1);
        Due.is("line(2, 4): the tune does not matter", x.line(2, 4), 0);
        BurdenTunes y = Due.with("x", "|.;|w;|w;|w");
        Due.is("line(0, 4), of several the lowest", y.line(0, 4), 1);
        y.set(BurdenTunes.HURT, 0);
        y.beat(0, 0, 2);
        Due.is("line(0, 4) where nothing hurts", y.line(0, 4), 0);
        BurdenTunes z = Due.with("xX", "|sw;|ws");
        z.dropPhrase(1);
        Due.is("line(0, 4) after the cheapest is dropped", z.line(0, 4), 0);
        z.dropPhrase(0);
        Due.is("line(0, 4) after all are dropped", z.line(0, 4), NONE);
    }

    private static void promise13Phrase() {
        BurdenTunes x = Due.with("|sw.wwws..s;|...;|w;|swsws.sw;|.s", "x");
        int[] order = {1, 0, 1, 3, 1};
        for (int phrase : order) {
            x.play(phrase);
        }
        int[][] want = {{10, 3, 4, 3, 1, 4}, {3, 0, 0, 3, 3, 0}, {1, 0, 1, 0, 0, 1}, {8, 4, 3, 1, 1, 5}, {2, 1, 0, 1, 0, 1}};
        for (int phrase = 0; phrase < want.length; phrase++) {
            for (int what = 0; what < 6; what++) {
                Due.is("phrase(" + phrase + ", " + what + ")", x.phrase(phrase, what), want[phrase][what]);
            }
        }
        for (int phrase : new int[] {-1, 5, MIN, MAX}) {
            for (int what = -1; what <= 6; what++) {
                Due.is("phrase(" + phrase + ", " + what + ")", x.phrase(phrase, what), NO_SUCH);
            }
        }
        for (int what : new int[] {-1, 6, MIN, MAX}) {
            Due.is("phrase(0, " + what + ")", x.phrase(0, what), BAD_VALUE);
        }
        BurdenTunes y = Due.with("|s." + "sw".repeat(11));
        int[] wide = {24, 12, 11, 1, 0, 22};
        for (int what = 0; what < 6; what++) {
            Due.is("phrase(0, " + what + ") of 24", y.phrase(0, what), wide[what]);
        }
        y.beat(0, 1, 1);
        Due.is("phrase(0, 5) without rests", y.phrase(0, 5), 24);
        for (int i = 0; i < 8; i++) {
            y.play(0);
        }
        Due.is("phrase(0, 4) when full", y.phrase(0, 4), 8);
    }

    private static void promises12And13AfterLongerOnes() {
        BurdenTunes x = Due.with("XXXX", "|ssww..w");
        x.dropLine(0);
        x.dropPhrase(0);
        Due.write(x, "x;|.");
        int[] line = {1, 0, 0, 0, NONE};
        for (int what = 0; what < line.length; what++) {
            Due.is("line(0, " + what + ") where a longer one was", x.line(0, what), line[what]);
        }
        int[] phrase = {1, 0, 0, 1, 0, 0};
        for (int what = 0; what < phrase.length; what++) {
            Due.is("phrase(0, " + what + ") where a longer one was", x.phrase(0, what), phrase[what]);
        }
    }

    private static void promise14IsStressed() {
        BurdenTunes x = Due.with("xXx;XX", "XxxxxxxxxxxxxxxX");
        Due.is("isStressed(0, 0)", x.isStressed(0, 0), 0);
        Due.is("isStressed(0, 1)", x.isStressed(0, 1), 1);
        Due.is("isStressed(0, 2)", x.isStressed(0, 2), 0);
        Due.is("isStressed(1, 0)", x.isStressed(1, 0), 1);
        Due.is("isStressed(1, 1)", x.isStressed(1, 1), 1);
        Due.is("isStressed(2, 14)", x.isStressed(2, 14), 0);
        Due.is("isStressed(2, 15)", x.isStressed(2, 15), 1);
        x.stress(2, 14, true);
        Due.is("isStressed(2, 14) then", x.isStressed(2, 14), 1);
        int[][] wrong = {{-1, 0}, {3, 0}, {0, -1}, {0, 3}, {1, 2}, {2, 16}, {MIN, 0}, {MAX, 0}, {0, MIN}, {0, MAX}};
        for (int[] w : wrong) {
            Due.is("isStressed(" + w[0] + ", " + w[1] + ")", x.isStressed(w[0], w[1]), NO_SUCH);
        }
        Due.is("isStressed(0, 0) without lines", new BurdenTunes().isStressed(0, 0), NO_SUCH);
    }

    private static void promise15KindOf() {
        BurdenTunes x = Due.with("|sw.;|ww", "|.wwwwwwwwwwwwwwwwwwwwwws");
        Due.is("kindOf(0, 0)", x.kindOf(0, 0), 2);
        Due.is("kindOf(0, 1)", x.kindOf(0, 1), 1);
        Due.is("kindOf(0, 2)", x.kindOf(0, 2), 0);
        Due.is("kindOf(1, 0)", x.kindOf(1, 0), 1);
        Due.is("kindOf(2, 0)", x.kindOf(2, 0), 0);
        Due.is("kindOf(2, 23)", x.kindOf(2, 23), 2);
        x.beat(2, 23, 0);
        Due.is("kindOf(2, 23) then", x.kindOf(2, 23), 0);
        int[][] wrong = {{-1, 0}, {3, 0}, {0, -1}, {0, 3}, {1, 2}, {2, 24}, {MIN, 0}, {MAX, 0}, {0, MIN}, {0, MAX}};
        for (int[] w : wrong) {
            Due.is("kindOf(" + w[0] + ", " + w[1] + ")", x.kindOf(w[0], w[1]), NO_SUCH);
        }
        Due.is("kindOf(0, 0) without phrases", new BurdenTunes().kindOf(0, 0), NO_SUCH);
    }

    private static void promise16Count() {
        BurdenTunes x = Due.with("x;X;xx;x", "|s;|w");
        x.set(BurdenTunes.BREATH, 5);
        x.set(BurdenTunes.DRAWN, 6);
        x.set(BurdenTunes.LOST, 8);
        x.set(BurdenTunes.HURT, 19);
        for (int line : new int[] {0, 1, 0, 2, 1, 3, 0}) {
            x.sing(line);
        }
        x.play(1);
        x.play(1);
        x.play(0);
        Due.put(x, "x;y");
        int[] want = {4, 2, 7, 3, 2, 5, 6, 8, 19, 3, 6};
        for (int what = 0; what < want.length; what++) {
            Due.is("count(" + what + ")", x.count(what), want[what]);
        }
        // Lines 0 and 3 are alike, but they are not the same line.
        x.sing(2);
        Due.is("count(4) then", x.count(4), 3);
        x.clear(false);
        Due.is("count(4) without a ballad", x.count(4), 0);
        for (int what : new int[] {-1, 11, MIN, MAX}) {
            Due.is("count(" + what + ")", x.count(what), BAD_VALUE);
        }
        BurdenTunes y = Due.with("x;x;x;x;x;x;x;x;x;x;x;x;x;x;x;x");
        y.verse(0, 15, 0);
        Due.is("count(4) of one burden", y.count(4), 1);
        for (int line = 8; line < 16; line++) {
            y.sing(line);
        }
        Due.is("count(4) of nine burdens", y.count(4), 9);
        for (int changes = 1; changes <= 8; changes++) {
            BurdenTunes z = new BurdenTunes();
            for (int i = 0; i < changes; i++) {
                z.clear(true);
            }
            Due.is("count(10) after " + changes, z.count(10), Math.min(changes, 6));
        }
    }

    private static void promise17At() {
        BurdenTunes x = Due.with("x;X;xx", "|s;|w");
        for (int line : new int[] {2, 0, 1}) {
            x.sing(line);
        }
        x.play(1);
        x.play(0);
        Due.is("at(false, 0)", x.at(false, 0), 2);
        Due.is("at(false, 1)", x.at(false, 1), 0);
        Due.is("at(false, 2)", x.at(false, 2), 1);
        Due.is("at(true, 0)", x.at(true, 0), 1);
        Due.is("at(true, 1)", x.at(true, 1), 0);
        for (int place : new int[] {-1, 3, 8, 40, MIN, MAX}) {
            Due.is("at(false, " + place + ")", x.at(false, place), NO_SUCH);
        }
        for (int place : new int[] {-1, 2, 8, 40, MIN, MAX}) {
            Due.is("at(true, " + place + ")", x.at(true, place), NO_SUCH);
        }
        x.clear(true);
        Due.is("at(true, 0) of an empty tune", x.at(true, 0), NO_SUCH);
        Due.is("at(false, 0) then", x.at(false, 0), 2);
        x.clear(false);
        Due.is("at(false, 0) of an empty ballad", x.at(false, 0), NO_SUCH);
        for (int i = 0; i < 40; i++) {
            x.sing(i % 3);
        }
        Due.is("at(false, 39)", x.at(false, 39), 0);
        Due.is("at(false, 40)", x.at(false, 40), NO_SUCH);
        for (int i = 0; i < 8; i++) {
            x.play(i % 2);
        }
        Due.is("at(true, 7)", x.at(true, 7), 1);
        Due.is("at(true, 8)", x.at(true, 8), NO_SUCH);
    }

    private static void questionsChangeNothing() {
        BurdenTunes x = Due.with("xXx;XX", "|sws;|w.s");
        x.sing(1);
        x.sing(0);
        x.play(1);
        x.play(0);
        Due.put(x, "Xs");
        for (int i = 0; i < 3; i++) {
            for (int what = 0; what < 5; what++) {
                x.line(0, what);
                x.phrase(1, what);
                x.fit(0, 0, what);
                x.whole(what);
                x.count(what);
            }
            x.lies(0, 0, 1, 0);
            x.bestPhrase();
            x.bestChange(0, 0, 0);
            x.bestChange(1, 0, 1);
            x.enoughBreath(0, 0);
            x.fault();
        }
        Due.lines("after questions", x, "xXx", "XX");
        Due.phrases("after questions", x, "sws", "w.s");
        Due.ballad("after questions", x, 1, 0);
        Due.tune("after questions", x, 1, 0);
        Due.is("the changes after questions", x.count(10), 6);
        Due.is("BREATH after questions", x.count(5), 3);
        Due.is("the pad after questions", x.wipe(), 2);
    }
}
