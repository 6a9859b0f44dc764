/**
 * "A call that returns an error changes nothing." Each method's errors in objects that are new, without lines,
 * without phrases, small, full, undone and without a tune, with numbers just outside, far outside, and such that wrap around.
 */
public final class RefusedTest {
    private static final int NO_SUCH = BurdenTunes.NO_SUCH, BAD_VALUE = BurdenTunes.BAD_VALUE;
    private static final int BAD_TEXT = BurdenTunes.BAD_TEXT, TOO_MANY = BurdenTunes.TOO_MANY;
    private static final int NOT_POSSIBLE = BurdenTunes.NOT_POSSIBLE, NONE = BurdenTunes.NONE;
    private static final int MIN = Integer.MIN_VALUE, MAX = Integer.MAX_VALUE;

    public static void main(String[] args) {
        for (int state = 0; state < States.COUNT; state++) {
            noSuchLine(state);
            noSuchPhrase(state);
            noSuchSyllable(state);
            noSuchBeat(state);
            noSuchPlace(state);
            badSettings(state);
            badSlots(state);
            badWhats(state);
            badCharacters(state);
        }
        badKinds();
        badVerses();
        badTexts();
        tooMany();
        notPossible();
        theStatesAreWhatTheirNamesSay();
        Due.end();
    }

    /** Numbers below 0 and from the bound on; times 8, 16, 24 or 256 some of them become 0 again. */
    private static int[] outside(int bound) {
        return new int[] {-1, bound, MIN, MAX, -256, 256, 65536, 1 << 24, 1 << 28, 1 << 29, MIN + 1, MAX - 1};
    }

    private static void noSuchLine(int state) {
        for (int line : outside(States.made(state).count(0))) {
            String of = "(" + line;
            Unchanged.refused(state, "dropLine" + of, NO_SUCH, x -> x.dropLine(line));
            Unchanged.refused(state, "stress" + of + ", 0, true", NO_SUCH, x -> x.stress(line, 0, true));
            Unchanged.refused(state, "stress" + of + ", 0, false", NO_SUCH, x -> x.stress(line, 0, false));
            Unchanged.refused(state, "sing" + of, NO_SUCH, x -> x.sing(line));
            Unchanged.refused(state, "verse" + of + ", 0, 0", NO_SUCH, x -> x.verse(line, 0, 0));
            Unchanged.refused(state, "verse(0, .., 0" + of, NO_SUCH, x -> x.verse(0, line, 0));
            Unchanged.refused(state, "verse(0, 0, .." + of, NO_SUCH, x -> x.verse(0, 0, line));
            Unchanged.refused(state, "verse of all" + of, NO_SUCH, x -> x.verse(line, line, line));
            for (int what = 0; what <= 4; what++) {
                int asked = what;
                Unchanged.refused(state, "line" + of + ", " + what, NO_SUCH, x -> x.line(line, asked));
                Unchanged.refused(state, "fit" + of + ", 0, " + what, NO_SUCH, x -> x.fit(line, 0, asked));
            }
            Unchanged.refused(state, "isStressed" + of, NO_SUCH, x -> x.isStressed(line, 0));
            Unchanged.refused(state, "lies" + of + ", 0, 0, 0", NO_SUCH, x -> x.lies(line, 0, 0, 0));
            Unchanged.refused(state, "lies" + of + ", 0, 0, 1", NO_SUCH, x -> x.lies(line, 0, 0, 1));
            Unchanged.refused(state, "bestChange" + of + ", 0, 0", NO_SUCH, x -> x.bestChange(line, 0, 0));
            Unchanged.refused(state, "bestChange" + of + ", 0, 1", NO_SUCH, x -> x.bestChange(line, 0, 1));
            Unchanged.refused(state, "enoughBreath" + of + ", 0", NO_SUCH, x -> x.enoughBreath(line, 0));
        }
    }

    private static void noSuchPhrase(int state) {
        for (int phrase : outside(States.made(state).count(1))) {
            String of = "(" + phrase;
            Unchanged.refused(state, "dropPhrase" + of, NO_SUCH, x -> x.dropPhrase(phrase));
            Unchanged.refused(state, "play" + of, NO_SUCH, x -> x.play(phrase));
            for (int what = 0; what <= 5; what++) {
                int asked = what;
                Unchanged.refused(state, "phrase" + of + ", " + what, NO_SUCH, x -> x.phrase(phrase, asked));
            }
            for (int kind = 0; kind <= 2; kind++) {
                int put = kind;
                Unchanged.refused(state, "beat" + of + ", 0, " + kind, NO_SUCH, x -> x.beat(phrase, 0, put));
            }
            for (int what = 0; what <= 4; what++) {
                int asked = what;
                Unchanged.refused(state, "fit(0, .., " + what + of, NO_SUCH, x -> x.fit(0, phrase, asked));
            }
            Unchanged.refused(state, "kindOf" + of, NO_SUCH, x -> x.kindOf(phrase, 0));
            Unchanged.refused(state, "lies(0, .., 0, 0" + of, NO_SUCH, x -> x.lies(0, phrase, 0, 0));
            Unchanged.refused(state, "lies(0, .., 0, 1" + of, NO_SUCH, x -> x.lies(0, phrase, 0, 1));
            Unchanged.refused(state, "bestChange(0, .., 0" + of, NO_SUCH, x -> x.bestChange(0, phrase, 0));
            Unchanged.refused(state, "bestChange(0, .., 1" + of, NO_SUCH, x -> x.bestChange(0, phrase, 1));
            Unchanged.refused(state, "enoughBreath(0, .." + of, NO_SUCH, x -> x.enoughBreath(0, phrase));
        }
    }

    /** Syllables of the first and of the last line; that the next line has such a syllable does not matter. */
    private static void noSuchSyllable(int state) {
        BurdenTunes made = States.made(state);
        for (int line : new int[] {0, Math.max(made.count(0) - 1, 0)}) {
            for (int syllable : outside(Math.max(made.line(line, 0), 0))) {
                String of = "(" + line + ", " + syllable;
                Unchanged.refused(state, "stress" + of + ", true", NO_SUCH, x -> x.stress(line, syllable, true));
                Unchanged.refused(state, "stress" + of + ", false", NO_SUCH, x -> x.stress(line, syllable, false));
                Unchanged.refused(state, "isStressed" + of, NO_SUCH, x -> x.isStressed(line, syllable));
                Unchanged.refused(state, "lies" + of + ", 0", NO_SUCH, x -> x.lies(line, 0, syllable, 0));
                Unchanged.refused(state, "lies" + of + ", 1", NO_SUCH, x -> x.lies(line, 0, syllable, 1));
            }
        }
    }

    private static void noSuchBeat(int state) {
        BurdenTunes made = States.made(state);
        for (int phrase : new int[] {0, Math.max(made.count(1) - 1, 0)}) {
            for (int beat : outside(Math.max(made.phrase(phrase, 0), 0))) {
                String of = "(" + phrase + ", " + beat;
                for (int kind = 0; kind <= 2; kind++) {
                    int put = kind;
                    Unchanged.refused(state, "beat" + of + ", " + kind, NO_SUCH, x -> x.beat(phrase, beat, put));
                }
                Unchanged.refused(state, "kindOf" + of, NO_SUCH, x -> x.kindOf(phrase, beat));
            }
        }
    }

    private static void noSuchPlace(int state) {
        BurdenTunes made = States.made(state);
        for (int place : outside(made.count(2))) {
            Unchanged.refused(state, "at(false, " + place, NO_SUCH, x -> x.at(false, place));
        }
        for (int place : outside(made.count(3))) {
            Unchanged.refused(state, "at(true, " + place, NO_SUCH, x -> x.at(true, place));
        }
    }

    private static void badSettings(int state) {
        int[] least = {1, 0, 0, 0};
        int[] greatest = {8, 9, 9, 20};
        for (int setting = 0; setting < 4; setting++) {
            int changed = setting;
            for (int value : outside(greatest[setting] + 1)) {
                Unchanged.refused(state, "set(" + setting + ", " + value, BAD_VALUE, x -> x.set(changed, value));
            }
            Unchanged.refused(state, "set(" + setting + ", too little", BAD_VALUE, x -> x.set(changed, least[changed] - 1));
        }
        for (int setting : outside(4)) {
            for (int value = 0; value <= 8; value++) {
                int put = value;
                Unchanged.refused(state, "set(" + setting + ", " + value, BAD_VALUE, x -> x.set(setting, put));
            }
        }
    }

    private static void badSlots(int state) {
        for (int slot : outside(2)) {
            Unchanged.refused(state, "save(" + slot, BAD_VALUE, x -> x.save(slot));
            Unchanged.refused(state, "restore(" + slot, BAD_VALUE, x -> x.restore(slot));
        }
    }

    private static void badWhats(int state) {
        BurdenTunes made = States.made(state);
        boolean hasLine = made.count(0) > 0;
        boolean hasPhrase = made.count(1) > 0;
        for (int what : outside(11)) {
            Unchanged.refused(state, "count(" + what, BAD_VALUE, x -> x.count(what));
        }
        for (int what : outside(4)) {
            Unchanged.refused(state, "whole(" + what, BAD_VALUE, x -> x.whole(what));
        }
        for (int what : outside(5)) {
            Unchanged.refused(state, "line(0, " + what, hasLine ? BAD_VALUE : NO_SUCH, x -> x.line(0, what));
            Unchanged.refused(state, "fit(0, 0, " + what, hasLine && hasPhrase ? BAD_VALUE : NO_SUCH, x -> x.fit(0, 0, what));
        }
        for (int what : outside(6)) {
            Unchanged.refused(state, "phrase(0, " + what, hasPhrase ? BAD_VALUE : NO_SUCH, x -> x.phrase(0, what));
        }
        for (int what : outside(2)) {
            int want = hasLine && hasPhrase ? BAD_VALUE : NO_SUCH;
            Unchanged.refused(state, "lies(0, 0, 0, " + what, want, x -> x.lies(0, 0, 0, what));
            Unchanged.refused(state, "bestChange(0, 0, " + what, want, x -> x.bestChange(0, 0, what));
        }
    }

    private static void badCharacters(int state) {
        long[] wrong = {0, 1, 32, 127, 128, 255, -1, -0x78, Long.MIN_VALUE, Long.MAX_VALUE, MIN, MAX, 0x7800, 0x7820,
            0x2078, 0x780078, 0x7F78, 0x78FF, 0x100000078L, 0x7800000000L, 0x7800000000000000L, 0x7800000000000078L};
        for (long characters : wrong) {
            Unchanged.refused(state, "put(" + characters, BAD_VALUE, x -> x.put(characters));
        }
    }

    private static void badKinds() {
        for (int state : new int[] {States.ONLY_PHRASES, States.SMALL, States.FULL}) {
            for (int kind : outside(3)) {
                Unchanged.refused(state, "beat(0, 0, " + kind, BAD_VALUE, x -> x.beat(0, 0, kind));
                Unchanged.refused(state, "beat(1, 0, " + kind, BAD_VALUE, x -> x.beat(1, 0, kind));
            }
        }
    }

    private static void badVerses() {
        for (int state : new int[] {States.ONLY_LINES, States.SMALL, States.FULL}) {
            for (int burden = 0; burden <= 1; burden++) {
                int behind = burden;
                Unchanged.refused(state, "verse(1, 0, " + burden, BAD_VALUE, x -> x.verse(1, 0, behind));
            }
        }
        Unchanged.refused(States.FULL, "verse(15, 0, 0", BAD_VALUE, x -> x.verse(15, 0, 0));
        Unchanged.refused(States.FULL, "verse(15, 14, 15", BAD_VALUE, x -> x.verse(15, 14, 15));
    }

    /** An empty pad, one that ends too early, and one with a fault. */
    private static void badTexts() {
        for (int state : new int[] {States.NEW, States.ONLY_LINES, States.UNDONE}) {
            Unchanged.refused(state, "write(", BAD_TEXT, x -> x.write());
        }
    }

    private static void tooMany() {
        Unchanged.refused(States.FULL, "write(", TOO_MANY, x -> x.write());
        for (int number = 0; number < 16; number++) {
            int line = number;
            Unchanged.refused(States.FULL, "sing(" + line, TOO_MANY, x -> x.sing(line));
            Unchanged.refused(States.FULL, "verse(0, " + line + ", 0", TOO_MANY, x -> x.verse(0, line, 0));
            Unchanged.refused(States.FULL, "verse(" + line + ", 15, 15", TOO_MANY, x -> x.verse(line, 15, 15));
        }
        for (int number = 0; number < 8; number++) {
            int phrase = number;
            Unchanged.refused(States.FULL, "play(" + phrase, TOO_MANY, x -> x.play(phrase));
        }
        for (int length = 1; length <= 8; length++) {
            long characters = Due.number("xX;|sw.~".substring(0, length));
            Unchanged.refused(States.FULL, "put of " + length, TOO_MANY, x -> x.put(characters));
        }
    }

    private static void notPossible() {
        for (int state : new int[] {States.NEW, States.ONLY_LINES, States.NO_TUNE}) {
            for (int what = 0; what <= 3; what++) {
                int asked = what;
                Unchanged.refused(state, "whole(" + what, NOT_POSSIBLE, x -> x.whole(asked));
            }
        }
        Unchanged.refused(States.NEW, "undo(", NOT_POSSIBLE, x -> x.undo());
        Unchanged.refused(States.UNDONE, "undo(", NOT_POSSIBLE, x -> x.undo());
        Unchanged.refused(States.NEW, "restore(0", NOT_POSSIBLE, x -> x.restore(0));
        Unchanged.refused(States.NEW, "restore(1", NOT_POSSIBLE, x -> x.restore(1));
        Unchanged.refused(States.ONLY_PHRASES, "restore(0", NOT_POSSIBLE, x -> x.restore(0));
        Unchanged.refused(States.ONLY_LINES, "restore(1", NOT_POSSIBLE, x -> x.restore(1));
    }

    /** That the tests above have tested what they are about. */
    private static void theStatesAreWhatTheirNamesSay() {
        int[][] counts = {{0, 0, 0, 0, 0, 3, 1, 3, 7, 0, 0}, {2, 0, 7, 0, 2, 5, 2, 4, 9, 2, 6},
            {0, 2, 0, 7, 0, 5, 2, 4, 9, 4, 6}, {2, 3, 3, 3, 1, 5, 2, 4, 9, 5, 6},
            {16, 8, 40, 8, 6, 8, 2, 8, 9, 60, 6}, {2, 2, 2, 2, 0, 5, 2, 4, 9, 2, 0},
            {2, 2, 2, 0, 0, 5, 2, 4, 12, 2, 6}};
        int[] faults = {0, 2, NONE, NONE, NONE, 1, NONE};
        for (int state = 0; state < States.COUNT; state++) {
            BurdenTunes x = States.made(state);
            for (int what = 0; what <= 10; what++) {
                Due.is(States.NAMES[state] + ": count(" + what + ")", x.count(what), counts[state][what]);
            }
            Due.is(States.NAMES[state] + ": fault()", x.fault(), faults[state]);
        }
    }
}
