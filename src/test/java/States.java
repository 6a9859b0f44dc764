/**
 * Objects that stand at an edge of the document: a number always makes the same one, with few enough calls.
 * All but the new one have settings that are not the first ones, a first syllable without a stress, and a first beat
 * that is not strong, a pad that was filled before the latest changes, and an oldest state that is not an empty one,
 * so that it shows if any of this is lost.
 */
final class States {
    static final int NEW = 0, ONLY_LINES = 1, ONLY_PHRASES = 2, SMALL = 3, FULL = 4, UNDONE = 5, NO_TUNE = 6, COUNT = 7;
    static final String[] NAMES = {"new", "only lines", "only phrases", "small", "full", "undone", "no tune"};
    /** A pad that is full and has no fault. */
    static final String SIXTY = "xXxXxXxXxXxXxXxX;|swswswswswsw.wswswswswsw;XXXXXXXX;|w.s;xXx";

    private States() {
    }

    static BurdenTunes made(int state) {
        switch (state) {
            case ONLY_LINES: return onlyLines();
            case ONLY_PHRASES: return onlyPhrases();
            case SMALL: return small();
            case FULL: return full();
            case UNDONE: return undone();
            case NO_TUNE: return noTune();
            default: return new BurdenTunes();
        }
    }

    private static BurdenTunes with(String... texts) {
        BurdenTunes x = Due.with(texts);
        x.set(BurdenTunes.BREATH, 5);
        x.set(BurdenTunes.DRAWN, 2);
        x.set(BurdenTunes.LOST, 4);
        x.set(BurdenTunes.HURT, 9);
        return x;
    }

    /** No phrase, a ballad without a tune, nothing in slot 1, and a pad that ends too early. */
    private static BurdenTunes onlyLines() {
        BurdenTunes x = with("xX;X");
        Due.put(x, "x;");
        x.sing(1);
        x.save(0);
        for (int line = 0; line < 6; line++) {
            x.sing(line % 2);
        }
        return x;
    }

    /** No line, a tune without a ballad, and nothing in slot 0. */
    private static BurdenTunes onlyPhrases() {
        BurdenTunes x = with("|wsw;|.");
        Due.put(x, "|s;x");
        x.play(1);
        x.save(1);
        for (int phrase = 0; phrase < 6; phrase++) {
            x.play(phrase % 2);
        }
        return x;
    }

    /** Something of everything; line 0 can be laid on phrase 0 alone. */
    private static BurdenTunes small() {
        BurdenTunes x = with("xXx;XX;|wsws;|w.s;|.");
        Due.put(x, "X;|ws");
        x.play(1);
        x.sing(1);
        x.save(1);
        x.sing(0);
        x.save(0);
        x.play(0);
        x.stress(1, 0, false);
        x.beat(1, 0, 2);
        x.sing(1);
        x.play(2);
        return x;
    }

    /** The book, the ballad, the tune, the pad and the history are full. */
    private static BurdenTunes full() {
        BurdenTunes x = with("x;X;x;X;x;X;x;X;x;X;x;X;x;X;x;X;|w;|s;|.;|w;|s;|.;|w;|s");
        Due.put(x, SIXTY);
        for (int phrase = 0; phrase < 8; phrase++) {
            x.play(7 - phrase);
        }
        x.save(1);
        x.verse(0, 15, 3);
        x.save(0);
        x.verse(4, 7, 2);
        x.stress(15, 0, false);
        x.beat(7, 0, 1);
        x.set(BurdenTunes.BREATH, 8);
        x.set(BurdenTunes.LOST, 8);
        x.stress(14, 0, true);
        x.beat(6, 0, 0);
        return x;
    }

    /** Nothing is left to undo, and the pad has a fault. */
    private static BurdenTunes undone() {
        BurdenTunes x = with("xX;xx;|ws;|s.");
        Due.put(x, "xs");
        x.sing(0);
        x.play(1);
        x.save(0);
        x.sing(1);
        x.save(1);
        x.play(0);
        x.stress(0, 1, false);
        x.dropPhrase(1);
        x.clear(false);
        for (int hurt = 1; hurt <= 3; hurt++) {
            x.set(BurdenTunes.HURT, hurt);
        }
        for (int undone = 0; undone < 6; undone++) {
            x.undo();
        }
        return x;
    }

    /** All but a tune. */
    private static BurdenTunes noTune() {
        BurdenTunes x = with("xX;X;|w.s;|s");
        Due.put(x, "xX");
        x.sing(1);
        x.play(0);
        x.save(0);
        x.sing(0);
        x.save(1);
        x.play(1);
        x.set(BurdenTunes.HURT, 12);
        x.stress(0, 1, false);
        x.beat(1, 0, 1);
        x.clear(true);
        return x;
    }

    /** What count, at, line, phrase, isStressed, kindOf and fault answer, as a text. */
    static String told(BurdenTunes x) {
        StringBuilder text = new StringBuilder("counts");
        for (int what = 0; what <= 10; what++) {
            text.append(' ').append(x.count(what));
        }
        text.append(", fault ").append(x.fault());
        for (int line = 0; line < x.count(0); line++) {
            text.append(", line ").append(Due.lineOf(x, line));
            for (int what = 1; what <= 4; what++) {
                text.append(' ').append(x.line(line, what));
            }
        }
        for (int phrase = 0; phrase < x.count(1); phrase++) {
            text.append(", phrase ").append(Due.phraseOf(x, phrase));
            for (int what = 1; what <= 5; what++) {
                text.append(' ').append(x.phrase(phrase, what));
            }
        }
        return text.append(row(x, false)).append(row(x, true)).toString();
    }

    private static String row(BurdenTunes x, boolean isTune) {
        StringBuilder text = new StringBuilder(isTune ? ", tune" : ", ballad");
        int length = x.count(isTune ? 3 : 2);
        for (int place = 0; place <= length; place++) {
            text.append(' ').append(x.at(isTune, place));
        }
        return text.toString();
    }

    /** The same without what is told of the pad. */
    static String toldWithoutPad(BurdenTunes x) {
        return told(x).replaceFirst(" \\d+( \\d+), fault -?\\d+", "$1");
    }
}
