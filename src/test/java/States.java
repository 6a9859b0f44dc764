/** Objects that stand at an edge of the document: a number always makes the same one, with few enough calls. */
final class States {
    static final int NEW = 0, ONLY_LINES = 1, ONLY_PHRASES = 2, SMALL = 3, FULL = 4, UNDONE = 5, COUNT = 6;
    static final String[] NAMES = {"new", "only lines", "only phrases", "small", "full", "undone"};
    /** A pad that is full and has no fault. */
    static final String SIXTY = "xXxXxXxXxXxXxXxX;|swswswswswsw.wswswswswsw;XXXXXXXX;|w.s;xXx";

    private States() {
    }

    static BurdenTunes made(int state) {
        switch (state) {
            case ONLY_LINES: return onlyLines();
            case ONLY_PHRASES: return onlyPhrases();
            case SMALL: return small();
            case FULL: return full();
            case UNDONE: return undone();
            default: return new BurdenTunes();
        }
    }

    /** No phrase, a ballad without a tune, and a pad that ends too early. */
    private static BurdenTunes onlyLines() {
        BurdenTunes x = Due.with("xX;X");
        x.sing(1);
        Due.put(x, "x;");
        return x;
    }

    /** No line, a tune without a ballad, and a slot with a book without anything. */
    private static BurdenTunes onlyPhrases() {
        BurdenTunes x = new BurdenTunes();
        x.save(1);
        Due.write(x, "|sw;|.");
        x.play(0);
        Due.put(x, "|s;x");
        return x;
    }

    /** Something of everything: eight changes, of which six can be undone, and two slots that differ. */
    private static BurdenTunes small() {
        BurdenTunes x = Due.with("xXx;XX;|sws;|w.s;|.");
        x.set(BurdenTunes.HURT, 8);
        x.save(1);
        x.play(1);
        x.sing(1);
        x.sing(0);
        x.save(0);
        x.play(0);
        x.stress(0, 0, true);
        x.beat(1, 0, 2);
        Due.put(x, "X;|ws");
        return x;
    }

    /** The book, the ballad, the tune, the pad and the history are full. */
    private static BurdenTunes full() {
        BurdenTunes x = Due.with("x;X;x;X;x;X;x;X;x;X;x;X;x;X;x;X;|s;|w;|.;|s;|w;|.;|s;|w");
        for (int phrase = 0; phrase < 8; phrase++) {
            x.play(7 - phrase);
        }
        x.save(1);
        x.set(BurdenTunes.BREATH, 8);
        x.set(BurdenTunes.LOST, 9);
        x.verse(0, 15, 3);
        x.stress(15, 0, false);
        x.verse(4, 7, 2);
        x.beat(7, 0, 2);
        Due.put(x, SIXTY);
        return x;
    }

    /** Nothing is left to undo, one slot is empty, and the pad has a fault. */
    private static BurdenTunes undone() {
        BurdenTunes x = Due.with("xX;|sw");
        x.sing(0);
        x.play(0);
        x.save(0);
        x.undo();
        x.undo();
        x.undo();
        Due.put(x, "xs");
        return x;
    }

    /** What count, at, line, phrase, isStressed, kindOf and fault answer, as a text. */
    static String told(BurdenTunes x) {
        StringBuilder text = new StringBuilder("counts");
        for (int what = 0; what <= 10; what++) {
            text.append(' ').append(x.count(what));
        }
        text.append(", fault ").append(x.fault());
        for (int line = 0; line < x.count(0); line++) {
            text.append(", line ").append(Due.lineOf(x, line));
            for (int what = 1; what <= 4; what++) {
                text.append(' ').append(x.line(line, what));
            }
        }
        for (int phrase = 0; phrase < x.count(1); phrase++) {
            text.append(", phrase ").append(Due.phraseOf(x, phrase));
            for (int what = 1; what <= 5; what++) {
                text.append(' ').append(x.phrase(phrase, what));
            }
        }
        return text.append(row(x, false)).append(row(x, true)).toString();
    }

    private static String row(BurdenTunes x, boolean isTune) {
        StringBuilder text = new StringBuilder(isTune ? ", tune" : ", ballad");
        int length = x.count(isTune ? 3 : 2);
        for (int place = 0; place <= length; place++) {
            text.append(' ').append(x.at(isTune, place));
        }
        return text.toString();
    }
}
