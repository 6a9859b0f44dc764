import java.util.function.IntUnaryOperator;

/** Each range and each limit that the document names: what is just inside it, and what is just outside. */
public final class LimitsTest {
    private static final int NO_SUCH = BurdenTunes.NO_SUCH, BAD_VALUE = BurdenTunes.BAD_VALUE;
    private static final int BAD_TEXT = BurdenTunes.BAD_TEXT, TOO_MANY = BurdenTunes.TOO_MANY;
    private static final int NOT_POSSIBLE = BurdenTunes.NOT_POSSIBLE, NONE = BurdenTunes.NONE;
    private static final int MIN = Integer.MIN_VALUE, MAX = Integer.MAX_VALUE;
    private static final String FIFTEEN_LINES = "x;X;x;X;x;X;x;X;x;X;x;X;x;X;x", SEVEN_PHRASES = "|s;|w;|s;|w;|s;|w;|s";

    public static void main(String[] args) {
        breathIs1To8AtFirst3();
        drawnIs0To9AtFirst1();
        lostIs0To9AtFirst3();
        hurtIs0To20AtFirst7();
        settingsAre0To3();
        upTo16Lines();
        upTo16LinesInOneText();
        aLineHas1To16Syllables();
        upTo8Phrases();
        upTo8PhrasesInOneText();
        aPhraseHas1To24Beats();
        kindIs0To2();
        theBalladHasUpTo40LinesBySing();
        theBalladHasUpTo40LinesByVerse();
        aVerseOfOneLineAndOfAll();
        theTuneHasUpTo8Phrases();
        thePadHasAtMost60Characters();
        aHistoryOfAtMost6States();
        slotsAre0And1();
        whatsInside();
        the512thCall();
        Due.end();
    }

    private static void setting(int setting, int first, int least, int greatest) {
        BurdenTunes x = new BurdenTunes();
        String name = "setting " + setting;
        Due.is(name + " at first", x.count(5 + setting), first);
        for (int value : new int[] {least - 1, greatest + 1, MIN, MAX, MIN + greatest, -greatest, 256 + least}) {
            Due.is(name + " set to " + value, x.set(setting, value), BAD_VALUE);
            Due.is(name + " after an error", x.count(5 + setting), first);
        }
        Due.is("changes after errors", x.count(10), 0);
        int previous = first;
        for (int value = greatest; value >= least; value--) {
            Due.is(name + " set to " + value, x.set(setting, value), previous);
            Due.is(name, x.count(5 + setting), value);
            previous = value;
        }
        int[] firsts = {3, 1, 3, 7};
        for (int other = 0; other < 4; other++) {
            Due.is("setting " + other + " then", x.count(5 + other), other == setting ? least : firsts[other]);
        }
    }

    /** "BREATH (1 to 8; 3), the most beats of a syllable." */
    private static void breathIs1To8AtFirst3() {
        setting(BurdenTunes.BREATH, 3, 1, 8);
        BurdenTunes x = Due.with("X;|swwwwwwwww");
        x.set(BurdenTunes.LOST, 9);
        Due.is("beats of a syllable at first", x.lies(0, 0, 0, 1), 3);
        for (int breath = 1; breath <= 8; breath++) {
            x.set(BurdenTunes.BREATH, breath);
            Due.is("beats of a syllable with BREATH " + breath, x.lies(0, 0, 0, 1), breath);
            Due.is("free beats with BREATH " + breath, x.fit(0, 0, 3), 10 - breath);
        }
    }

    /** "DRAWN (0 to 9; 1)." */
    private static void drawnIs0To9AtFirst1() {
        setting(BurdenTunes.DRAWN, 1, 0, 9);
        BurdenTunes x = Due.with("X;|sww");
        x.set(BurdenTunes.LOST, 9);
        Due.is("the cost of two beats more at first", x.fit(0, 0, 0), 2);
        for (int drawn = 0; drawn <= 9; drawn++) {
            x.set(BurdenTunes.DRAWN, drawn);
            Due.is("the cost of two beats more with DRAWN " + drawn, x.fit(0, 0, 0), 2 * drawn);
        }
    }

    /** "LOST (0 to 9; 3)." */
    private static void lostIs0To9AtFirst3() {
        setting(BurdenTunes.LOST, 3, 0, 9);
        BurdenTunes x = Due.with("X;|s.ww");
        Due.is("the cost of two free beats at first", x.fit(0, 0, 0), 6);
        // Else it would be cheaper to lay the stress on the two weak beats, and to lose the strong one.
        x.set(BurdenTunes.HURT, 20);
        for (int lost = 0; lost <= 9; lost++) {
            x.set(BurdenTunes.LOST, lost);
            Due.is("the cost of two free beats with LOST " + lost, x.fit(0, 0, 0), 2 * lost);
        }
    }

    /** "HURT (0 to 20; 7)." */
    private static void hurtIs0To20AtFirst7() {
        setting(BurdenTunes.HURT, 7, 0, 20);
        BurdenTunes x = Due.with("X;x;|w;|s");
        Due.is("the cost of a hurt at first", x.fit(0, 0, 0), 7);
        for (int hurt = 0; hurt <= 20; hurt++) {
            x.set(BurdenTunes.HURT, hurt);
            Due.is("a stress on a weak beat with HURT " + hurt, x.fit(0, 0, 0), hurt);
            Due.is("no stress on a strong beat with HURT " + hurt, x.fit(1, 1, 0), hurt);
            Due.is("no stress on a weak beat with HURT " + hurt, x.fit(1, 0, 0), 0);
            Due.is("a stress on a strong beat with HURT " + hurt, x.fit(0, 1, 0), 0);
        }
    }

    /** "BAD_VALUE if there is no such setting": they are BREATH (0), DRAWN (1), LOST (2), HURT (3). */
    private static void settingsAre0To3() {
        BurdenTunes x = new BurdenTunes();
        for (int setting : new int[] {-1, 4, 5, MIN, MAX, 256, 1 << 30}) {
            for (int value : new int[] {0, 1, 3, 8, -1, 21}) {
                Due.is("set(" + setting + ", " + value + ")", x.set(setting, value), BAD_VALUE);
            }
        }
        Due.is("set(0, 1)", x.set(0, 1), 3);
        Due.is("set(3, 0)", x.set(3, 0), 7);
        Due.is("changes", x.count(10), 2);
    }

    /** "There are up to 16 lines"; "TOO_MANY if there would be more than 16 lines". */
    private static void upTo16Lines() {
        BurdenTunes x = Due.with(FIFTEEN_LINES);
        Due.is("line(14, 0) of 15", x.line(14, 0), 1);
        Due.is("line(15, 0) of 15", x.line(15, 0), NO_SUCH);
        Due.put(x, "XX;xx");
        Due.is("write() of lines 15 and 16", x.write(), TOO_MANY);
        Due.is("lines then", x.count(0), 15);
        Due.is("the pad then", x.wipe(), 5);
        Due.put(x, "XXX;|s");
        Due.is("write() of line 15 and a phrase", x.write(), 16);
        Due.is("line(15, 0) of 16", x.line(15, 0), 3);
        Due.is("line(16, 0) of 16", x.line(16, 0), NO_SUCH);
        Due.is("isStressed(15, 2)", x.isStressed(15, 2), 1);
        Due.is("isStressed(15, 3)", x.isStressed(15, 3), NO_SUCH);
        Due.is("stress(15, 0, false)", x.stress(15, 0, false), 1);
        Due.is("sing(15)", x.sing(15), 1);
        Due.put(x, "x");
        Due.is("write() of line 16", x.write(), TOO_MANY);
        Due.is("the pad then", x.count(9), 1);
        Due.is("dropLine(15) of 16", x.dropLine(15), 0);
        Due.is("write() of line 15", x.write(), 16);
        Due.put(x, "|s;x;|w");
        Due.is("write() of line 16 among phrases", x.write(), TOO_MANY);
        Due.is("phrases then", x.count(1), 1);
        x.wipe();
        Due.put(x, "|s;|w");
        Due.is("write() of phrases alone with 16 lines", x.write(), 16);
        Due.is("phrases then", x.count(1), 3);
    }

    private static void upTo16LinesInOneText() {
        BurdenTunes x = new BurdenTunes();
        Due.put(x, FIFTEEN_LINES + ";xX;XX");
        Due.is("write() of 17 lines", x.write(), TOO_MANY);
        Due.is("lines then", x.count(0), 0);
        x.wipe();
        Due.put(x, FIFTEEN_LINES + ";xX;|s;XX");
        Due.is("write() of 17 lines and a phrase", x.write(), TOO_MANY);
        Due.is("phrases then", x.count(1), 0);
        x.wipe();
        Due.put(x, FIFTEEN_LINES + ";xX");
        Due.is("write() of 16 lines", x.write(), 16);
        Due.lines("after 16 lines", x, "x", "X", "x", "X", "x", "X", "x", "X", "x", "X", "x", "X", "x", "X", "x", "xX");
    }

    /** "A line has 1 to 16 syllables." */
    private static void aLineHas1To16Syllables() {
        for (int syllables = 1; syllables <= 16; syllables++) {
            BurdenTunes x = Due.with("X".repeat(syllables));
            Due.is("line(0, 0) of " + syllables, x.line(0, 0), syllables);
            Due.is("line(0, 1) of " + syllables, x.line(0, 1), syllables);
            Due.is("isStressed of the last of " + syllables, x.isStressed(0, syllables - 1), 1);
            Due.is("isStressed behind " + syllables, x.isStressed(0, syllables), NO_SUCH);
            Due.is("stress of the last of " + syllables, x.stress(0, syllables - 1, false), 1);
            Due.is("stress behind " + syllables, x.stress(0, syllables, false), NO_SUCH);
        }
        BurdenTunes y = new BurdenTunes();
        Due.put(y, "X".repeat(17));
        Due.is("write() of 17 syllables", y.write(), BAD_TEXT);
        Due.is("the fault of 17 syllables", y.fault(), 16);
        y.wipe();
        Due.is("write() of no syllable", y.write(), BAD_TEXT);
        Due.is("lines then", y.count(0), 0);
    }

    /** "There are up to 8 phrases"; "TOO_MANY if there would be more than .. 8 phrases". */
    private static void upTo8Phrases() {
        BurdenTunes x = Due.with(SEVEN_PHRASES);
        Due.is("phrase(6, 0) of 7", x.phrase(6, 0), 1);
        Due.is("phrase(7, 0) of 7", x.phrase(7, 0), NO_SUCH);
        Due.put(x, "|sw;|ws");
        Due.is("write() of phrases 7 and 8", x.write(), TOO_MANY);
        Due.is("phrases then", x.count(1), 7);
        Due.is("the pad then", x.wipe(), 7);
        Due.put(x, "x;|s.w");
        Due.is("write() of phrase 7 and a line", x.write(), 1);
        Due.is("phrase(7, 0) of 8", x.phrase(7, 0), 3);
        Due.is("phrase(8, 0) of 8", x.phrase(8, 0), NO_SUCH);
        Due.is("kindOf(7, 2)", x.kindOf(7, 2), 1);
        Due.is("kindOf(7, 3)", x.kindOf(7, 3), NO_SUCH);
        Due.is("beat(7, 1, 2)", x.beat(7, 1, 2), 0);
        Due.is("play(7)", x.play(7), 1);
        Due.put(x, "|w");
        Due.is("write() of phrase 8", x.write(), TOO_MANY);
        Due.is("the pad then", x.count(9), 2);
        Due.is("dropPhrase(7) of 8", x.dropPhrase(7), 0);
        Due.is("write() of phrase 7", x.write(), 1);
        Due.put(x, "x;|s;x");
        Due.is("write() of phrase 8 among lines", x.write(), TOO_MANY);
        Due.is("lines then", x.count(0), 1);
        x.wipe();
        Due.put(x, "x;X");
        Due.is("write() of lines alone with 8 phrases", x.write(), 3);
    }

    private static void upTo8PhrasesInOneText() {
        BurdenTunes x = new BurdenTunes();
        Due.put(x, SEVEN_PHRASES + ";|sw;|ws");
        Due.is("write() of 9 phrases", x.write(), TOO_MANY);
        Due.is("phrases then", x.count(1), 0);
        x.wipe();
        Due.put(x, "x;" + SEVEN_PHRASES + ";|sw;|ws");
        Due.is("write() of a line and 9 phrases", x.write(), TOO_MANY);
        Due.is("lines then", x.count(0), 0);
        x.wipe();
        Due.put(x, SEVEN_PHRASES + ";|sw");
        Due.is("write() of 8 phrases", x.write(), 0);
        Due.phrases("after 8 phrases", x, "s", "w", "s", "w", "s", "w", "s", "sw");
        BurdenTunes y = new BurdenTunes();
        Due.put(y, FIFTEEN_LINES + ";X;" + SEVEN_PHRASES + ";|.");
        Due.is("write() of 16 lines and 8 phrases", y.write(), 16);
        Due.is("phrases then", y.count(1), 8);
    }

    /** "A phrase has 1 to 24 beats." */
    private static void aPhraseHas1To24Beats() {
        for (int beats = 1; beats <= 24; beats++) {
            BurdenTunes x = Due.with("|" + "s".repeat(beats));
            Due.is("phrase(0, 0) of " + beats, x.phrase(0, 0), beats);
            Due.is("phrase(0, 1) of " + beats, x.phrase(0, 1), beats);
            Due.is("phrase(0, 5) of " + beats, x.phrase(0, 5), beats);
            Due.is("kindOf the last of " + beats, x.kindOf(0, beats - 1), 2);
            Due.is("kindOf behind " + beats, x.kindOf(0, beats), NO_SUCH);
            Due.is("beat of the last of " + beats, x.beat(0, beats - 1, 0), 2);
            Due.is("beat behind " + beats, x.beat(0, beats, 0), NO_SUCH);
        }
        BurdenTunes y = new BurdenTunes();
        Due.put(y, "|" + "s".repeat(25));
        Due.is("write() of 25 beats", y.write(), BAD_TEXT);
        Due.is("the fault of 25 beats", y.fault(), 25);
        y.wipe();
        Due.put(y, "|");
        Due.is("write() of no beat", y.write(), BAD_TEXT);
        Due.is("phrases then", y.count(1), 0);
    }

    /** "kind: 0 to 2": a rest, weak, strong. */
    private static void kindIs0To2() {
        BurdenTunes x = Due.with("|s");
        int previous = 2;
        for (int kind : new int[] {0, 1, 2, 2, 1, 1, 0, 0, 2, 0}) {
            Due.is("beat(0, 0, " + kind + ")", x.beat(0, 0, kind), previous);
            Due.is("kindOf(0, 0)", x.kindOf(0, 0), kind);
            previous = kind;
        }
        for (int kind : new int[] {-1, 3, MIN, MAX, 256, -256, MIN + 1}) {
            Due.is("beat(0, 0, " + kind + ")", x.beat(0, 0, kind), BAD_VALUE);
        }
        Due.is("kindOf(0, 0) after errors", x.kindOf(0, 0), 0);
    }

    /** "The ballad is a row of up to 40 lines"; "TOO_MANY if it has 40". */
    private static void theBalladHasUpTo40LinesBySing() {
        BurdenTunes x = Due.with("x;X");
        for (int length = 1; length <= 40; length++) {
            Due.is("sing to " + length, x.sing(length % 2), length);
        }
        for (int i = 0; i < 3; i++) {
            Due.is("sing(0) with 40", x.sing(0), TOO_MANY);
            Due.is("sing(1) with 40", x.sing(1), TOO_MANY);
        }
        Due.is("the ballad then", x.count(2), 40);
        Due.is("at(false, 0)", x.at(false, 0), 1);
        Due.is("at(false, 39)", x.at(false, 39), 0);
        Due.is("at(false, 40)", x.at(false, 40), NO_SUCH);
        Due.is("undo()", x.undo(), 5);
        Due.is("the ballad after undo", x.count(2), 39);
        Due.is("sing(1) with 39", x.sing(1), 40);
        Due.is("clear(false) with 40", x.clear(false), 40);
        Due.is("sing(1) with none", x.sing(1), 1);
    }

    /** "TOO_MANY if it would have more than 40": for each number of lines that there are, and each length of a verse. */
    private static void theBalladHasUpTo40LinesByVerse() {
        for (int before = 0; before <= 40; before++) {
            for (int lines = 1; lines <= 16; lines++) {
                BurdenTunes x = Due.with(FIFTEEN_LINES + ";XX");
                for (int i = 0; i < before; i++) {
                    x.sing(7);
                }
                int after = before + 2 * lines;
                Due.is("a verse of " + lines + " behind " + before, x.verse(16 - lines, 15, 3), after > 40 ? TOO_MANY : after);
                Due.is("the ballad then", x.count(2), after > 40 ? before : after);
                Due.is("the place behind it", x.at(false, x.count(2)), NO_SUCH);
            }
        }
    }

    /** "Some lines of its own, from a first one to a last one, and a burden behind each of them." */
    private static void aVerseOfOneLineAndOfAll() {
        BurdenTunes x = Due.with("x;X;xx");
        Due.is("a verse of one line", x.verse(2, 2, 0), 2);
        Due.is("a verse of one line that is its burden", x.verse(1, 1, 1), 4);
        Due.is("a verse of all lines, the burden first", x.verse(0, 2, 0), 10);
        Due.is("a verse of all lines, the burden last", x.verse(0, 2, 2), 16);
        Due.ballad("of four verses", x, 2, 0, 1, 1, 0, 0, 1, 0, 2, 0, 0, 2, 1, 2, 2, 2);
        Due.is("a verse from 1 to 0", x.verse(1, 0, 2), BAD_VALUE);
        Due.is("a verse from 2 to 1", x.verse(2, 1, 2), BAD_VALUE);
        Due.is("a verse to 3", x.verse(2, 3, 2), NO_SUCH);
        Due.is("changes", x.count(10), 5);
        BurdenTunes y = Due.with("X");
        Due.is("a verse of the only line", y.verse(0, 0, 0), 2);
        Due.ballad("of the only line", y, 0, 0);
    }

    /** "The tune is a row of 1 to 8 phrases (their numbers; none at first)"; "TOO_MANY if it has 8". */
    private static void theTuneHasUpTo8Phrases() {
        BurdenTunes x = Due.with("|s;|w");
        Due.is("the tune at first", x.count(3), 0);
        Due.is("at(true, 0) at first", x.at(true, 0), NO_SUCH);
        Due.is("whole(3) at first", x.whole(3), NOT_POSSIBLE);
        for (int length = 1; length <= 8; length++) {
            Due.is("play to " + length, x.play(length % 2), length);
            Due.is("whole(3) with " + length, x.whole(3), 0);
        }
        for (int i = 0; i < 3; i++) {
            Due.is("play(0) with 8", x.play(0), TOO_MANY);
            Due.is("play(1) with 8", x.play(1), TOO_MANY);
        }
        Due.tune("of 8", x, 1, 0, 1, 0, 1, 0, 1, 0);
        Due.is("undo()", x.undo(), 5);
        Due.is("the tune after undo", x.count(3), 7);
        Due.is("play(1) with 7", x.play(1), 8);
        Due.is("clear(true) with 8", x.clear(true), 8);
        Due.is("whole(3) then", x.whole(3), NOT_POSSIBLE);
        Due.is("play(1) with none", x.play(1), 1);
    }

    /** "The pad is a text of at most 60 characters"; "TOO_MANY if the pad would be longer than 60". */
    private static void thePadHasAtMost60Characters() {
        for (int added = 1; added <= 8; added++) {
            long characters = Due.number("XXXXXXXX".substring(0, added));
            BurdenTunes x = new BurdenTunes();
            Due.put(x, States.SIXTY.substring(0, 60 - added));
            Due.is("put of " + added + " to 60", x.put(characters), 60);
            Due.is("the pad then", x.count(9), 60);
            Due.is("put of 1 to 61", x.put('X'), TOO_MANY);
            BurdenTunes y = new BurdenTunes();
            Due.put(y, "~".repeat(61 - added));
            Due.is("put of " + added + " to 61", y.put(characters), TOO_MANY);
            Due.is("the pad then", y.count(9), 61 - added);
            Due.is("the fault then", y.fault(), 0);
            Due.is("wipe() then", y.wipe(), 61 - added);
        }
        BurdenTunes z = new BurdenTunes();
        Due.put(z, States.SIXTY);
        Due.is("the fault of 60", z.fault(), NONE);
        Due.is("write() of 60", z.write(), 3);
        Due.lines("of 60", z, "xXxXxXxXxXxXxXxX", "XXXXXXXX", "xXx");
        Due.phrases("of 60", z, "swswswswswsw.wswswswswsw", "w.s");
        Due.is("the pad after write", z.count(9), 0);
        Due.is("put after write", z.put(Due.number("xxxxxxxx")), 8);
    }

    /** "A history of at most 6 states is kept: .. when one more is recorded, the oldest one is dropped." */
    private static void aHistoryOfAtMost6States() {
        for (int changes = 0; changes <= 14; changes++) {
            BurdenTunes x = new BurdenTunes();
            for (int change = 1; change <= changes; change++) {
                x.set(BurdenTunes.HURT, change);
                Due.is("changes that can be undone after " + change, x.count(10), Math.min(change, 6));
            }
            int kept = Math.min(changes, 6);
            for (int undone = 1; undone <= kept; undone++) {
                Due.is("undo() " + undone + " of " + changes, x.undo(), kept - undone);
                int value = changes - undone;
                Due.is("HURT after undo " + undone + " of " + changes, x.count(8), value == 0 ? 7 : value);
            }
            int last = x.count(8);
            for (int i = 0; i < 2; i++) {
                Due.is("undo() when nothing is left of " + changes, x.undo(), NOT_POSSIBLE);
                Due.is("HURT then", x.count(8), last);
                Due.is("count(10) then", x.count(10), 0);
            }
        }
    }

    /** "slot: 0 or 1"; "BAD_VALUE if there is no such slot". */
    private static void slotsAre0And1() {
        BurdenTunes x = Due.with("x");
        for (int slot : new int[] {-1, 2, 3, MIN, MAX, 256, 1 << 30}) {
            Due.is("save(" + slot + ")", x.save(slot), BAD_VALUE);
            Due.is("restore(" + slot + ")", x.restore(slot), BAD_VALUE);
        }
        Due.is("restore(0)", x.restore(0), NOT_POSSIBLE);
        Due.is("restore(1)", x.restore(1), NOT_POSSIBLE);
        Due.is("save(0)", x.save(0), 1);
        Due.is("restore(0)", x.restore(0), 1);
        Due.is("restore(1)", x.restore(1), NOT_POSSIBLE);
        Due.is("save(1)", x.save(1), 1);
        Due.is("restore(1)", x.restore(1), 1);
        Due.is("restore(2)", x.restore(2), BAD_VALUE);
        Due.is("restore(-1)", x.restore(-1), BAD_VALUE);
    }

    /** The least and the greatest what of each question: RefusedTest has those just outside. */
    private static void whatsInside() {
        BurdenTunes x = Due.with("xX;|ws");
        x.sing(0);
        x.play(0);
        Due.put(x, "X");
        whats("line(0, ", new int[] {2, 1, 1, 0, 0}, what -> x.line(0, what));
        whats("phrase(0, ", new int[] {2, 1, 1, 0, 1, 2}, what -> x.phrase(0, what));
        whats("count(", new int[] {1, 1, 1, 1, 0, 3, 1, 3, 7, 1, 3}, what -> x.count(what));
        whats("fit(0, 0, ", new int[] {0, 1, 1, 0, 0}, what -> x.fit(0, 0, what));
        whats("lies(0, 0, 1, ", new int[] {1, 1}, what -> x.lies(0, 0, 1, what));
        whats("whole(", new int[] {0, 0, 0, 2}, what -> x.whole(what));
        whats("bestChange(0, 0, ", new int[] {0, 7}, what -> x.bestChange(0, 0, what));
    }

    private static void whats(String call, int[] want, IntUnaryOperator asks) {
        for (int what = 0; what < want.length; what++) {
            Due.is(call + what + ")", asks.applyAsInt(what), want[what]);
        }
        for (int what : new int[] {-1, want.length, MIN, MAX, MIN + 1, 1 << 30}) {
            Due.is(call + what + ")", asks.applyAsInt(what), BAD_VALUE);
        }
    }

    /** "An object is used for at most 512 calls after it has been made": the last of them is answered as the first. */
    private static void the512thCall() {
        BurdenTunes x = new BurdenTunes();
        for (int call = 1; call <= 510; call++) {
            x.set(BurdenTunes.HURT, call % 20);
        }
        Due.is("call 511, undo()", x.undo(), 5);
        Due.is("call 512, count(8)", x.count(8), 509 % 20);
        BurdenTunes y = new BurdenTunes();
        for (int call = 1; call <= 510; call += 3) {
            Due.is("call " + call + ", put", y.put(Due.number("XxX")), 3);
            Due.is("call " + (call + 1) + ", write()", y.write(), 1);
            Due.is("call " + (call + 2) + ", dropLine(0)", y.dropLine(0), 0);
        }
        Due.is("call 511, undo()", y.undo(), 5);
        Due.is("call 512, isStressed(0, 2)", y.isStressed(0, 2), 1);
    }
}
