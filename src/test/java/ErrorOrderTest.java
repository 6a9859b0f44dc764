/**
 * "It names its errors in the order in which they are checked, and the first one that applies is returned",
 * "NONE is returned only if no error applies": calls to which two or three answers apply.
 */
public final class ErrorOrderTest {
    private static final int NO_SUCH = BurdenTunes.NO_SUCH, BAD_VALUE = BurdenTunes.BAD_VALUE;
    private static final int BAD_TEXT = BurdenTunes.BAD_TEXT, TOO_MANY = BurdenTunes.TOO_MANY;
    private static final int NOT_POSSIBLE = BurdenTunes.NOT_POSSIBLE, NONE = BurdenTunes.NONE;
    private static final int[] BAD_WHATS = {-1, 7, Integer.MIN_VALUE, Integer.MAX_VALUE};

    public static void main(String[] args) {
        promise3Write();
        promise7Beat();
        promise8Sing();
        promise9Play();
        promise10Verse();
        promise12Line();
        promise13Phrase();
        promise18Fit();
        promise19Lies();
        promise20Whole();
        promise21BestPhrase();
        promise22BestChange();
        promise23EnoughBreath();
        promise24Put();
        promise29Restore();
        Due.end();
    }

    private static BurdenTunes full() {
        return States.made(States.FULL);
    }

    /** Lines x and xxx, phrases of a weak beat and of a rest; xxx can be laid on neither, x not on the rest. */
    private static BurdenTunes unlaid() {
        return Due.with("x;xxx;|w;|.");
    }

    /** "BAD_TEXT if the pad has a fault; TOO_MANY if there would be more than 16 lines or 8 phrases." */
    private static void promise3Write() {
        for (String text : new String[] {"x;", "xs", "|", "|w;", "x;;", "", ";x", "|s;|w;~"}) {
            BurdenTunes x = full();
            x.wipe();
            Due.put(x, text);
            Due.is("write() of " + text + " when full", x.write(), BAD_TEXT);
        }
        for (String text : new String[] {"x", "|s", "x;|s"}) {
            BurdenTunes x = full();
            x.wipe();
            Due.put(x, text);
            Due.is("write() of " + text + " when full", x.write(), TOO_MANY);
        }
        BurdenTunes y = new BurdenTunes();
        Due.put(y, "x;x;x;x;x;x;x;x;x;x;x;x;x;x;x;x;x;");
        Due.is("write() of 17 lines and a fault", y.write(), BAD_TEXT);
    }

    /** "NO_SUCH if there is no such phrase or beat; BAD_VALUE if kind is out of range." */
    private static void promise7Beat() {
        BurdenTunes x = unlaid();
        for (int kind : new int[] {-1, 3, Integer.MIN_VALUE, Integer.MAX_VALUE}) {
            Due.is("beat(2, 0, " + kind + ")", x.beat(2, 0, kind), NO_SUCH);
            Due.is("beat(0, 1, " + kind + ")", x.beat(0, 1, kind), NO_SUCH);
            Due.is("beat(-1, -1, " + kind + ")", x.beat(-1, -1, kind), NO_SUCH);
            Due.is("beat(0, 0, " + kind + ")", x.beat(0, 0, kind), BAD_VALUE);
        }
    }

    /** "NO_SUCH if there is no such line; TOO_MANY if it has 40." */
    private static void promise8Sing() {
        BurdenTunes x = full();
        Due.is("sing(16) when full", x.sing(16), NO_SUCH);
        Due.is("sing(-1) when full", x.sing(-1), NO_SUCH);
        Due.is("sing(15) when full", x.sing(15), TOO_MANY);
    }

    /** "NO_SUCH if there is no such phrase; TOO_MANY if it has 8." */
    private static void promise9Play() {
        BurdenTunes x = full();
        Due.is("play(8) when full", x.play(8), NO_SUCH);
        Due.is("play(-1) when full", x.play(-1), NO_SUCH);
        Due.is("play(7) when full", x.play(7), TOO_MANY);
    }

    /** "NO_SUCH if there is no such line; BAD_VALUE if last is less than first; TOO_MANY if it would have more than 40." */
    private static void promise10Verse() {
        BurdenTunes x = full();
        Due.is("verse(1, 0, 16) when full", x.verse(1, 0, 16), NO_SUCH);
        Due.is("verse(1, 0, -1) when full", x.verse(1, 0, -1), NO_SUCH);
        Due.is("verse(16, 0, 0) when full", x.verse(16, 0, 0), NO_SUCH);
        Due.is("verse(0, -1, 0) when full", x.verse(0, -1, 0), NO_SUCH);
        Due.is("verse(0, 16, 0) when full", x.verse(0, 16, 0), NO_SUCH);
        Due.is("verse(-1, 0, 0) when full", x.verse(-1, 0, 0), NO_SUCH);
        Due.is("verse(-1, -2, -3) when full", x.verse(-1, -2, -3), NO_SUCH);
        Due.is("verse(1, 0, 0) when full", x.verse(1, 0, 0), BAD_VALUE);
        Due.is("verse(15, 0, 15) when full", x.verse(15, 0, 15), BAD_VALUE);
        Due.is("verse(0, 0, 0) when full", x.verse(0, 0, 0), TOO_MANY);
        Due.is("verse(15, 15, 15) when full", x.verse(15, 15, 15), TOO_MANY);
    }

    /** "NO_SUCH if there is no such line; BAD_VALUE if what is out of range", and then NONE. */
    private static void promise12Line() {
        BurdenTunes x = Due.with("x");
        for (int what : BAD_WHATS) {
            Due.is("line(1, " + what + ")", x.line(1, what), NO_SUCH);
            Due.is("line(-1, " + what + ")", x.line(-1, what), NO_SUCH);
            Due.is("line(0, " + what + ")", x.line(0, what), BAD_VALUE);
        }
        Due.is("line(1, 4) without phrases", x.line(1, 4), NO_SUCH);
        Due.is("line(0, 5) without phrases", x.line(0, 5), BAD_VALUE);
        Due.is("line(0, 4) without phrases", x.line(0, 4), NONE);
    }

    /** "NO_SUCH if there is no such phrase; BAD_VALUE if what is out of range." */
    private static void promise13Phrase() {
        BurdenTunes x = Due.with("|s");
        for (int what : BAD_WHATS) {
            Due.is("phrase(1, " + what + ")", x.phrase(1, what), NO_SUCH);
            Due.is("phrase(-1, " + what + ")", x.phrase(-1, what), NO_SUCH);
            Due.is("phrase(0, " + what + ")", x.phrase(0, what), BAD_VALUE);
        }
    }

    /** "NO_SUCH ..; BAD_VALUE ..; NONE if it cannot be laid (0 if what is 1 or 2)." */
    private static void promise18Fit() {
        BurdenTunes x = unlaid();
        for (int what : BAD_WHATS) {
            Due.is("fit(2, 0, " + what + ")", x.fit(2, 0, what), NO_SUCH);
            Due.is("fit(0, 2, " + what + ")", x.fit(0, 2, what), NO_SUCH);
            Due.is("fit(0, 0, " + what + ")", x.fit(0, 0, what), BAD_VALUE);
            Due.is("fit(1, 1, " + what + ")", x.fit(1, 1, what), BAD_VALUE);
        }
        int[] want = {NONE, 0, 0, NONE, NONE};
        for (int what = 0; what <= 4; what++) {
            Due.is("fit(1, 0, " + what + ")", x.fit(1, 0, what), want[what]);
            Due.is("fit(0, 1, " + what + ")", x.fit(0, 1, what), want[what]);
            Due.is("fit(1, 2, " + what + ")", x.fit(1, 2, what), NO_SUCH);
            Due.is("fit(2, 1, " + what + ")", x.fit(2, 1, what), NO_SUCH);
        }
    }

    /** "NO_SUCH if there is no such line, phrase or syllable; BAD_VALUE if what is neither 0 nor 1; NONE if the line cannot be laid." */
    private static void promise19Lies() {
        BurdenTunes x = unlaid();
        for (int what : BAD_WHATS) {
            Due.is("lies(2, 0, 0, " + what + ")", x.lies(2, 0, 0, what), NO_SUCH);
            Due.is("lies(0, 2, 0, " + what + ")", x.lies(0, 2, 0, what), NO_SUCH);
            Due.is("lies(0, 0, 1, " + what + ")", x.lies(0, 0, 1, what), NO_SUCH);
            Due.is("lies(1, 1, 3, " + what + ")", x.lies(1, 1, 3, what), NO_SUCH);
            Due.is("lies(0, 0, 0, " + what + ")", x.lies(0, 0, 0, what), BAD_VALUE);
            Due.is("lies(1, 1, 2, " + what + ")", x.lies(1, 1, 2, what), BAD_VALUE);
        }
        for (int what = 0; what <= 1; what++) {
            Due.is("lies(1, 0, 3, " + what + ")", x.lies(1, 0, 3, what), NO_SUCH);
            Due.is("lies(1, 2, 0, " + what + ")", x.lies(1, 2, 0, what), NO_SUCH);
            Due.is("lies(0, 1, 1, " + what + ")", x.lies(0, 1, 1, what), NO_SUCH);
            Due.is("lies(1, 0, 2, " + what + ")", x.lies(1, 0, 2, what), NONE);
            Due.is("lies(0, 1, 0, " + what + ")", x.lies(0, 1, 0, what), NONE);
        }
    }

    /** "BAD_VALUE if what is out of range; NOT_POSSIBLE if the tune has no phrases", and then NONE. */
    private static void promise20Whole() {
        BurdenTunes x = unlaid();
        for (int what : BAD_WHATS) {
            Due.is("whole(" + what + ") without a tune", x.whole(what), BAD_VALUE);
        }
        Due.is("whole(4) without a tune", x.whole(4), BAD_VALUE);
        Due.is("whole(2) without a tune and a ballad", x.whole(2), NOT_POSSIBLE);
        x.sing(1);
        Due.is("whole(2) without a tune", x.whole(2), NOT_POSSIBLE);
        x.play(0);
        Due.is("whole(2) of a line that cannot be laid", x.whole(2), NONE);
        Due.is("whole(4) of a line that cannot be laid", x.whole(4), BAD_VALUE);
        x.clear(false);
        Due.is("whole(2) without a ballad", x.whole(2), NONE);
    }

    /** "NONE if there are no phrases": whatever else there is. */
    private static void promise21BestPhrase() {
        Due.is("bestPhrase() of a new object", new BurdenTunes().bestPhrase(), NONE);
        Due.is("bestPhrase() without phrases", States.made(States.ONLY_LINES).bestPhrase(), NONE);
        Due.is("bestPhrase() without lines", States.made(States.ONLY_PHRASES).bestPhrase(), 0);
    }

    /** "NO_SUCH ..; BAD_VALUE if what is neither 0 nor 1; NONE if the line cannot be laid." */
    private static void promise22BestChange() {
        BurdenTunes x = unlaid();
        for (int what : BAD_WHATS) {
            Due.is("bestChange(2, 0, " + what + ")", x.bestChange(2, 0, what), NO_SUCH);
            Due.is("bestChange(0, 2, " + what + ")", x.bestChange(0, 2, what), NO_SUCH);
            Due.is("bestChange(0, 0, " + what + ")", x.bestChange(0, 0, what), BAD_VALUE);
            Due.is("bestChange(1, 1, " + what + ")", x.bestChange(1, 1, what), BAD_VALUE);
        }
        for (int what = 0; what <= 1; what++) {
            Due.is("bestChange(2, 1, " + what + ")", x.bestChange(2, 1, what), NO_SUCH);
            Due.is("bestChange(1, 2, " + what + ")", x.bestChange(1, 2, what), NO_SUCH);
            Due.is("bestChange(1, 0, " + what + ")", x.bestChange(1, 0, what), NONE);
            Due.is("bestChange(0, 1, " + what + ")", x.bestChange(0, 1, what), NONE);
        }
    }

    /** "NO_SUCH if there is no such line or phrase; NONE if it cannot be laid with any." */
    private static void promise23EnoughBreath() {
        BurdenTunes x = unlaid();
        Due.is("enoughBreath(2, 1)", x.enoughBreath(2, 1), NO_SUCH);
        Due.is("enoughBreath(1, 2)", x.enoughBreath(1, 2), NO_SUCH);
        Due.is("enoughBreath(1, 0)", x.enoughBreath(1, 0), NONE);
        Due.is("enoughBreath(0, 1)", x.enoughBreath(0, 1), NONE);
    }

    /** "BAD_VALUE if there is no character, ..; TOO_MANY if the pad would be longer than 60." */
    private static void promise24Put() {
        BurdenTunes x = full();
        for (long characters : new long[] {0, 32, 127, 0x7800, 0x780078, -1, Long.MIN_VALUE, Long.MAX_VALUE}) {
            Due.is("put(" + characters + ") when full", x.put(characters), BAD_VALUE);
        }
        Due.is("put(x) when full", x.put('x'), TOO_MANY);
        Due.is("put(~) when full", x.put('~'), TOO_MANY);
    }

    /** "BAD_VALUE if there is no such slot; NOT_POSSIBLE if nothing was saved in it." */
    private static void promise29Restore() {
        BurdenTunes x = new BurdenTunes();
        Due.is("restore(2) of a new object", x.restore(2), BAD_VALUE);
        Due.is("restore(-1) of a new object", x.restore(-1), BAD_VALUE);
        Due.is("restore(1) of a new object", x.restore(1), NOT_POSSIBLE);
    }
}
