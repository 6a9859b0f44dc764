/** Promises 1 to 11. */
public final class ChangesTest {
    private static final int NO_SUCH = BurdenTunes.NO_SUCH, BAD_VALUE = BurdenTunes.BAD_VALUE;
    private static final int BAD_TEXT = BurdenTunes.BAD_TEXT, TOO_MANY = BurdenTunes.TOO_MANY;
    private static final int NOT_POSSIBLE = BurdenTunes.NOT_POSSIBLE;
    private static final int MIN = Integer.MIN_VALUE, MAX = Integer.MAX_VALUE;

    public static void main(String[] args) {
        promise1NewObject();
        promise2Set();
        promise3Write();
        promise3WriteFull();
        promise4DropLine();
        promise5DropPhrase();
        promise6Stress();
        promise7Beat();
        promise8Sing();
        promise9Play();
        promise10Verse();
        promise11Clear();
        Due.end();
    }

    private static void promise1NewObject() {
        BurdenTunes x = new BurdenTunes();
        int[] want = {0, 0, 0, 0, 0, 3, 1, 3, 7, 0, 0};
        for (int what = 0; what < want.length; what++) {
            Due.is("new: count(" + what + ")", x.count(what), want[what]);
        }
        Due.is("new: fault()", x.fault(), 0);
        Due.is("new: undo()", x.undo(), NOT_POSSIBLE);
        Due.is("new: restore(0)", x.restore(0), NOT_POSSIBLE);
        Due.is("new: restore(1)", x.restore(1), NOT_POSSIBLE);
        Due.is("new: dropLine(0)", x.dropLine(0), NO_SUCH);
        Due.is("new: dropPhrase(0)", x.dropPhrase(0), NO_SUCH);
        Due.ballad("of a new object", x);
        Due.tune("of a new object", x);
        BurdenTunes other = Due.with("xX;|sw");
        other.set(BurdenTunes.HURT, 2);
        other.save(0);
        Due.is("another object's line", x.count(0), 0);
        Due.is("another object's HURT", x.count(8), 7);
        Due.is("another object's slot", x.restore(0), NOT_POSSIBLE);
    }

    private static void promise2Set() {
        BurdenTunes x = new BurdenTunes();
        int[] first = {3, 1, 3, 7};
        int[] least = {1, 0, 0, 0};
        int[] greatest = {8, 9, 9, 20};
        for (int setting = 0; setting < 4; setting++) {
            String name = "set(" + setting + ", ";
            Due.is(name + "least)", x.set(setting, least[setting]), first[setting]);
            Due.is("count of " + setting, x.count(5 + setting), least[setting]);
            Due.is(name + "greatest)", x.set(setting, greatest[setting]), least[setting]);
            Due.is("count of " + setting, x.count(5 + setting), greatest[setting]);
            Due.is(name + "greatest) again", x.set(setting, greatest[setting]), greatest[setting]);
            Due.is(name + "first)", x.set(setting, first[setting]), greatest[setting]);
            Due.is("undo()", x.undo(), Math.min(6, 4 * setting + 4) - 1);
            Due.is("count of " + setting, x.count(5 + setting), greatest[setting]);
            Due.is(name + "first) again", x.set(setting, first[setting]), greatest[setting]);
        }
        BurdenTunes y = new BurdenTunes();
        for (int setting = 0; setting < 4; setting++) {
            String name = "set(" + setting + ", ";
            Due.is(name + "too little)", y.set(setting, least[setting] - 1), BAD_VALUE);
            Due.is(name + "too much)", y.set(setting, greatest[setting] + 1), BAD_VALUE);
            Due.is(name + "MIN)", y.set(setting, MIN), BAD_VALUE);
            Due.is(name + "MAX)", y.set(setting, MAX), BAD_VALUE);
            Due.is("count of " + setting, y.count(5 + setting), first[setting]);
        }
        for (int setting : new int[] {-1, 4, MIN, MAX}) {
            Due.is("set(" + setting + ", 1)", y.set(setting, 1), BAD_VALUE);
            Due.is("set(" + setting + ", 99)", y.set(setting, 99), BAD_VALUE);
        }
        Due.is("changes after errors", y.count(10), 0);
        Due.is("set(HURT, 7)", y.set(3, 7), 7);
        Due.is("changes after a set that changes nothing", y.count(10), 1);
    }

    private static void promise3Write() {
        BurdenTunes x = new BurdenTunes();
        Due.is("write() of nothing", x.write(), BAD_TEXT);
        Due.is("changes then", x.count(10), 0);
        Due.put(x, "xXx;|sw.;X;|.");
        Due.is("write()", x.write(), 2);
        Due.lines("after write", x, "xXx", "X");
        Due.phrases("after write", x, "sw.", ".");
        Due.is("the pad after write", x.count(9), 0);
        Due.is("changes after write", x.count(10), 1);
        Due.is("write() again", x.write(), BAD_TEXT);
        Due.put(x, "|wws");
        Due.is("write() of a phrase", x.write(), 2);
        Due.phrases("after the second write", x, "sw.", ".", "wws");
        Due.put(x, "xX");
        Due.is("write() of a line", x.write(), 3);
        Due.lines("after the third write", x, "xXx", "X", "xX");
        Due.is("undo()", x.undo(), 2);
        Due.is("the pad after undo", x.count(9), 0);
        Due.lines("after undo", x, "xXx", "X");
        for (String text : new String[] {";", "x;", "|", "xs", "|x", "x;;x", "a", "x|s", "|s|", "|s;|"}) {
            Due.put(x, text);
            Due.is("write() of " + text, x.write(), BAD_TEXT);
            Due.is("the pad after BAD_TEXT", x.wipe(), text.length());
            Due.is("changes after BAD_TEXT", x.count(10), 2);
        }
        Due.lines("after bad texts", x, "xXx", "X");
        Due.phrases("after bad texts", x, "sw.", ".", "wws");
        BurdenTunes y = Due.with("XXxXxxXXXxxxXxXX", "|swswsw..wwssw.swswsws..s");
        Due.lines("of the greatest size", y, "XXxXxxXXXxxxXxXX");
        Due.phrases("of the greatest size", y, "swswsw..wwssw.swswsws..s");
        Due.is("write() after dropping", y.dropLine(0), 0);
        Due.write(y, "x");
        Due.lines("in the place of a dropped one", y, "x");
        Due.is("dropPhrase of the greatest", y.dropPhrase(0), 0);
        Due.write(y, "|w.");
        Due.phrases("in the place of a dropped one", y, "w.");
    }

    private static void promise3WriteFull() {
        BurdenTunes x = Due.with("x;x;x;x;x;x;x;x;x;x;x;x;x;x;x");
        Due.put(x, "X;X");
        Due.is("write() of lines 16 and 17", x.write(), TOO_MANY);
        Due.is("the pad after TOO_MANY", x.count(9), 3);
        Due.is("changes after TOO_MANY", x.count(10), 1);
        Due.is("lines after TOO_MANY", x.count(0), 15);
        x.wipe();
        Due.write(x, "XX");
        Due.is("lines when full", x.count(0), 16);
        Due.put(x, "x");
        Due.is("write() of line 17", x.write(), TOO_MANY);
        Due.put(x, ";");
        Due.is("write() with a fault, and too many", x.write(), BAD_TEXT);
        x.wipe();
        Due.write(x, "|s;|s;|s;|s;|s;|s;|s");
        Due.put(x, "|w;|w");
        Due.is("write() of phrases 8 and 9", x.write(), TOO_MANY);
        Due.is("phrases after TOO_MANY", x.count(1), 7);
        x.wipe();
        Due.write(x, "|w");
        Due.is("phrases when full", x.count(1), 8);
        Due.put(x, "|w");
        Due.is("write() of phrase 9", x.write(), TOO_MANY);
        x.wipe();
        BurdenTunes y = new BurdenTunes();
        Due.put(y, "x;x;x;x;x;x;x;x;x;x;x;x;x;x;x;x;x");
        Due.is("write() of 17 lines", y.write(), TOO_MANY);
        y.wipe();
        Due.put(y, "|s;|s;|s;|s;|s;|s;|s;|s;|s;x");
        Due.is("write() of 9 phrases and a line", y.write(), TOO_MANY);
        Due.is("lines of a write that failed", y.count(0), 0);
        y.wipe();
        Due.write(y, "x;x;x;x;x;x;x;x;x;x;x;x;x;x;x;x;|s;|s;|s;|s;|s;|s;|s;|s");
        Due.is("lines of one write", y.count(0), 16);
        Due.is("phrases of one write", y.count(1), 8);
    }

    private static void promise4DropLine() {
        BurdenTunes x = Due.with("xX;XXX;Xxxx;x;|sw");
        for (int line : new int[] {2, 1, 0, 1, 3, 1}) {
            x.sing(line);
        }
        Due.is("dropLine(1)", x.dropLine(1), 3);
        Due.lines("after dropLine(1)", x, "xX", "Xxxx", "x");
        Due.ballad("after dropLine(1)", x, 1, 0, 2);
        Due.is("changes after dropLine", x.count(10), 6);
        Due.is("dropLine(3)", x.dropLine(3), NO_SUCH);
        Due.is("dropLine(-1)", x.dropLine(-1), NO_SUCH);
        Due.is("dropLine(MIN)", x.dropLine(MIN), NO_SUCH);
        Due.is("dropLine(MAX)", x.dropLine(MAX), NO_SUCH);
        Due.is("undo()", x.undo(), 5);
        Due.lines("after undo", x, "xX", "XXX", "Xxxx", "x");
        Due.ballad("after undo", x, 2, 1, 0, 1, 3, 1);
        Due.is("dropLine(3)", x.dropLine(3), 5);
        Due.lines("after dropLine(3)", x, "xX", "XXX", "Xxxx");
        Due.ballad("after dropLine(3)", x, 2, 1, 0, 1, 1);
        Due.is("dropLine(0)", x.dropLine(0), 4);
        Due.ballad("after dropLine(0)", x, 1, 0, 0, 0);
        Due.is("dropLine(0)", x.dropLine(0), 1);
        Due.is("dropLine(0)", x.dropLine(0), 0);
        Due.lines("after all are dropped", x);
        Due.phrases("after all lines are dropped", x, "sw");
        Due.is("dropLine(0) without lines", x.dropLine(0), NO_SUCH);
        BurdenTunes y = Due.with("x;X;xx;xX;Xx;XX;xxx;xxX;xXx;xXX;Xxx", "XxX;XXx;XXX;xxxx;xxxX");
        Due.is("dropLine(0) of 16", y.dropLine(0), 0);
        Due.lines("after the first of 16", y, "X", "xx", "xX", "Xx", "XX", "xxx", "xxX", "xXx", "xXX", "Xxx",
                "XxX", "XXx", "XXX", "xxxx", "xxxX");
        Due.is("dropLine(14), the last one", y.dropLine(14), 0);
        Due.is("lines then", y.count(0), 14);
    }

    private static void promise5DropPhrase() {
        BurdenTunes x = Due.with("|sw;|www;|s..s;|.;x");
        for (int phrase : new int[] {2, 1, 0, 1, 3, 1}) {
            x.play(phrase);
        }
        x.sing(0);
        Due.is("dropPhrase(1)", x.dropPhrase(1), 3);
        Due.phrases("after dropPhrase(1)", x, "sw", "s..s", ".");
        Due.tune("after dropPhrase(1)", x, 1, 0, 2);
        Due.ballad("after dropPhrase(1)", x, 0);
        Due.is("dropPhrase(3)", x.dropPhrase(3), NO_SUCH);
        Due.is("dropPhrase(-1)", x.dropPhrase(-1), NO_SUCH);
        Due.is("dropPhrase(MIN)", x.dropPhrase(MIN), NO_SUCH);
        Due.is("dropPhrase(MAX)", x.dropPhrase(MAX), NO_SUCH);
        Due.is("undo()", x.undo(), 5);
        Due.phrases("after undo", x, "sw", "www", "s..s", ".");
        Due.tune("after undo", x, 2, 1, 0, 1, 3, 1);
        Due.is("dropPhrase(0)", x.dropPhrase(0), 5);
        Due.tune("after dropPhrase(0)", x, 1, 0, 0, 2, 0);
        Due.is("dropPhrase(2)", x.dropPhrase(2), 4);
        Due.is("dropPhrase(0)", x.dropPhrase(0), 1);
        Due.is("dropPhrase(0)", x.dropPhrase(0), 0);
        Due.phrases("after all are dropped", x);
        Due.lines("after all phrases are dropped", x, "x");
        Due.is("dropPhrase(0) without phrases", x.dropPhrase(0), NO_SUCH);
        BurdenTunes y = Due.with("|s;|w;|.;|ss;|sw;|s.;|ws;|ww");
        Due.is("dropPhrase(7), the last of 8", y.dropPhrase(7), 0);
        Due.is("dropPhrase(0) of 7", y.dropPhrase(0), 0);
        Due.phrases("after the last and the first", y, "w", ".", "ss", "sw", "s.", "ws");
    }

    private static void promise6Stress() {
        BurdenTunes x = Due.with("xXx;XX");
        Due.is("stress(0, 1, false)", x.stress(0, 1, false), 1);
        Due.lines("after stress", x, "xxx", "XX");
        Due.is("stress(0, 2, true)", x.stress(0, 2, true), 0);
        Due.lines("after stress", x, "xxX", "XX");
        Due.is("stress(0, 2, true) again", x.stress(0, 2, true), 1);
        Due.is("stress(1, 0, true)", x.stress(1, 0, true), 1);
        Due.is("stress(0, 0, false)", x.stress(0, 0, false), 0);
        Due.lines("after stresses that change nothing", x, "xxX", "XX");
        Due.is("changes", x.count(10), 6);
        BurdenTunes y = Due.with("xXx;XX");
        int[][] wrong = {{-1, 0}, {2, 0}, {0, -1}, {0, 3}, {1, 2}, {MIN, 0}, {MAX, 0}, {0, MIN}, {0, MAX}, {2, 9}, {0, 16}};
        for (int[] w : wrong) {
            Due.is("stress(" + w[0] + ", " + w[1] + ", true)", y.stress(w[0], w[1], true), NO_SUCH);
            Due.is("stress(" + w[0] + ", " + w[1] + ", false)", y.stress(w[0], w[1], false), NO_SUCH);
        }
        Due.is("changes after errors", y.count(10), 1);
        Due.lines("after errors", y, "xXx", "XX");
        BurdenTunes z = Due.with("x;xxxxxxxxxxxxxxxx");
        Due.is("stress(1, 15, true)", z.stress(1, 15, true), 0);
        Due.lines("after the last syllable's stress", z, "x", "xxxxxxxxxxxxxxxX");
    }

    private static void promise7Beat() {
        BurdenTunes x = Due.with("|sw.;|ww");
        Due.is("beat(0, 0, 0)", x.beat(0, 0, 0), 2);
        Due.is("beat(0, 1, 2)", x.beat(0, 1, 2), 1);
        Due.is("beat(0, 2, 1)", x.beat(0, 2, 1), 0);
        Due.phrases("after beats", x, ".sw", "ww");
        Due.is("beat(1, 1, 1)", x.beat(1, 1, 1), 1);
        Due.phrases("after a beat that changes nothing", x, ".sw", "ww");
        Due.is("changes", x.count(10), 5);
        int[][] wrong = {{-1, 0}, {2, 0}, {0, -1}, {0, 3}, {1, 2}, {MIN, 0}, {MAX, 0}, {0, MIN}, {0, MAX}, {0, 24}};
        for (int[] w : wrong) {
            Due.is("beat(" + w[0] + ", " + w[1] + ", 1)", x.beat(w[0], w[1], 1), NO_SUCH);
            Due.is("beat(" + w[0] + ", " + w[1] + ", 3)", x.beat(w[0], w[1], 3), NO_SUCH);
        }
        for (int kind : new int[] {-1, 3, MIN, MAX}) {
            Due.is("beat(0, 0, " + kind + ")", x.beat(0, 0, kind), BAD_VALUE);
        }
        Due.is("changes after errors", x.count(10), 5);
        Due.phrases("after errors", x, ".sw", "ww");
        BurdenTunes y = Due.with("|s;|wwwwwwwwwwwwwwwwwwwwwwww");
        Due.is("beat(1, 23, 2)", y.beat(1, 23, 2), 1);
        Due.phrases("after the last beat", y, "s", "wwwwwwwwwwwwwwwwwwwwwwws");
    }

    private static void promise8Sing() {
        BurdenTunes x = Due.with("x;X;xx");
        Due.is("sing(2)", x.sing(2), 1);
        Due.is("sing(0)", x.sing(0), 2);
        Due.is("sing(2)", x.sing(2), 3);
        Due.ballad("after sing", x, 2, 0, 2);
        Due.tune("after sing", x);
        Due.is("changes", x.count(10), 4);
        for (int line : new int[] {-1, 3, MIN, MAX}) {
            Due.is("sing(" + line + ")", x.sing(line), NO_SUCH);
        }
        Due.is("changes after errors", x.count(10), 4);
        for (int count = 4; count <= 40; count++) {
            Due.is("sing(1)", x.sing(1), count);
        }
        Due.is("sing(1) when full", x.sing(1), TOO_MANY);
        Due.is("sing(3) when full", x.sing(3), NO_SUCH);
        Due.is("the ballad when full", x.count(2), 40);
        Due.is("the last place", x.at(false, 39), 1);
        Due.is("undo()", x.undo(), 5);
        Due.is("sing(0) with one place left", x.sing(0), 40);
        Due.is("the last place", x.at(false, 39), 0);
    }

    private static void promise9Play() {
        BurdenTunes x = Due.with("|s;|w;|.");
        Due.is("play(2)", x.play(2), 1);
        Due.is("play(0)", x.play(0), 2);
        Due.is("play(2)", x.play(2), 3);
        Due.tune("after play", x, 2, 0, 2);
        Due.ballad("after play", x);
        Due.is("changes", x.count(10), 4);
        for (int phrase : new int[] {-1, 3, MIN, MAX}) {
            Due.is("play(" + phrase + ")", x.play(phrase), NO_SUCH);
        }
        Due.is("changes after errors", x.count(10), 4);
        for (int count = 4; count <= 8; count++) {
            Due.is("play(1)", x.play(1), count);
        }
        Due.is("play(1) when full", x.play(1), TOO_MANY);
        Due.is("play(3) when full", x.play(3), NO_SUCH);
        Due.tune("when full", x, 2, 0, 2, 1, 1, 1, 1, 1);
    }

    private static void promise10Verse() {
        BurdenTunes x = Due.with("x;X;xx;XX");
        Due.is("verse(0, 2, 3)", x.verse(0, 2, 3), 6);
        Due.ballad("after a verse", x, 0, 3, 1, 3, 2, 3);
        Due.is("changes", x.count(10), 2);
        Due.is("verse(1, 1, 1)", x.verse(1, 1, 1), 8);
        Due.ballad("after two verses", x, 0, 3, 1, 3, 2, 3, 1, 1);
        Due.is("verse(2, 3, 2)", x.verse(2, 3, 2), 12);
        Due.ballad("after three verses", x, 0, 3, 1, 3, 2, 3, 1, 1, 2, 2, 3, 2);
        for (int line : new int[] {-1, 4, MIN, MAX}) {
            Due.is("verse(" + line + ", 2, 3)", x.verse(line, 2, 3), NO_SUCH);
            Due.is("verse(0, " + line + ", 3)", x.verse(0, line, 3), NO_SUCH);
            Due.is("verse(0, 2, " + line + ")", x.verse(0, 2, line), NO_SUCH);
            Due.is("verse(2, 1, " + line + ")", x.verse(2, 1, line), NO_SUCH);
        }
        Due.is("verse(2, 1, 0)", x.verse(2, 1, 0), BAD_VALUE);
        Due.is("verse(3, 0, 0)", x.verse(3, 0, 0), BAD_VALUE);
        Due.is("changes after errors", x.count(10), 4);
        Due.is("the ballad after errors", x.count(2), 12);
        for (int count = 20; count <= 36; count += 8) {
            Due.is("verse(0, 3, 0)", x.verse(0, 3, 0), count);
        }
        Due.is("verse(0, 2, 0) of 6 with 4 places left", x.verse(0, 2, 0), TOO_MANY);
        Due.is("the ballad after TOO_MANY", x.count(2), 36);
        Due.is("verse(2, 3, 1) of 4 with 4 places left", x.verse(2, 3, 1), 40);
        Due.is("place 36", x.at(false, 36), 2);
        Due.is("place 39", x.at(false, 39), 1);
        Due.is("verse(0, 0, 0) when full", x.verse(0, 0, 0), TOO_MANY);
        Due.is("verse(1, 0, 0) when full", x.verse(1, 0, 0), BAD_VALUE);
        Due.is("verse(1, 0, 4) when full", x.verse(1, 0, 4), NO_SUCH);
        x.undo();
        Due.is("sing(0)", x.sing(0), 37);
        Due.is("verse(0, 1, 0) of 4 with 3 places left", x.verse(0, 1, 0), TOO_MANY);
        Due.is("verse(3, 3, 0) of 2 with 3 places left", x.verse(3, 3, 0), 39);
        Due.is("verse(3, 3, 0) of 2 with 1 place left", x.verse(3, 3, 0), TOO_MANY);
        BurdenTunes y = Due.with("x;x;x;x;x;x;x;x;x;x;x;x;x;x;x;x");
        Due.is("verse(0, 15, 15)", y.verse(0, 15, 15), 32);
        Due.is("verse(0, 15, 15) again", y.verse(0, 15, 15), TOO_MANY);
        Due.is("verse(0, 3, 0)", y.verse(0, 3, 0), 40);
        BurdenTunes z = new BurdenTunes();
        Due.is("verse(0, 0, 0) without lines", z.verse(0, 0, 0), NO_SUCH);
    }

    private static void promise11Clear() {
        BurdenTunes x = Due.with("x;|s");
        x.sing(0);
        x.sing(0);
        x.sing(0);
        x.play(0);
        x.play(0);
        Due.is("clear(true)", x.clear(true), 2);
        Due.tune("after clear(true)", x);
        Due.ballad("after clear(true)", x, 0, 0, 0);
        Due.is("undo()", x.undo(), 5);
        Due.tune("after undo", x, 0, 0);
        Due.is("clear(false)", x.clear(false), 3);
        Due.ballad("after clear(false)", x);
        Due.tune("after clear(false)", x, 0, 0);
        Due.lines("after clear", x, "x");
        Due.phrases("after clear", x, "s");
        BurdenTunes y = new BurdenTunes();
        Due.is("clear(false) of nothing", y.clear(false), 0);
        Due.is("clear(true) of nothing", y.clear(true), 0);
        Due.is("changes after clear of nothing", y.count(10), 2);
    }
}
