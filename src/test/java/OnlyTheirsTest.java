import java.util.function.ToIntFunction;

/** Each change, and put, wipe, save and undo, changes what the document says of it, and leaves the rest as it was. */
public final class OnlyTheirsTest {
    private static final String[] PARTS = {"settings", "lines", "phrases", "ballad", "tune", "pad", "slot 0", "slot 1", "history"};
    private static final int[] MADE = {States.SMALL, States.UNDONE, States.NO_TUNE};

    public static void main(String[] args) {
        for (int state : MADE) {
            changes("settings", state, x -> x.set(BurdenTunes.BREATH, 2));
            changes("settings", state, x -> x.set(BurdenTunes.HURT, 1));
            changes("lines ballad", state, x -> x.dropLine(0));
            changes("lines ballad", state, x -> x.dropLine(1));
            changes("phrases tune", state, x -> x.dropPhrase(0));
            changes("phrases tune", state, x -> x.dropPhrase(1));
            changes("lines", state, x -> x.stress(0, 0, true));
            changes("phrases", state, x -> x.beat(0, 0, 2));
            changes("ballad", state, x -> x.sing(1));
            changes("tune", state, x -> x.play(1));
            changes("ballad", state, x -> x.verse(0, 1, 0));
            changes("ballad", state, x -> x.clear(false));
            changes("tune", state, x -> x.clear(true));
            changes("settings lines phrases ballad tune", state, x -> x.restore(0));
            changes("settings lines phrases ballad tune", state, x -> x.restore(1));
        }
        changes("lines phrases pad", States.SMALL, x -> x.write());
        changes("lines phrases pad", States.NO_TUNE, x -> x.write());
        changes("settings lines phrases ballad tune", States.SMALL, x -> x.undo());
        changes("settings lines phrases ballad tune", States.NO_TUNE, x -> x.undo());
        changes("ballad", States.FULL, x -> x.clear(false));
        changes("lines ballad", States.FULL, x -> x.dropLine(15));
        changes("phrases tune", States.FULL, x -> x.dropPhrase(7));
        for (int state = 0; state < States.COUNT; state++) {
            leaves("settings lines phrases ballad tune slot 0 slot 1 history", state, x -> x.wipe());
            leaves("settings lines phrases ballad tune pad slot 1 history", state, x -> x.save(0));
            leaves("settings lines phrases ballad tune pad slot 0 history", state, x -> x.save(1));
        }
        for (int state : new int[] {States.NEW, States.ONLY_LINES, States.ONLY_PHRASES, States.SMALL, States.UNDONE}) {
            leaves("settings lines phrases ballad tune slot 0 slot 1 history", state, x -> x.put('x'));
        }
        Due.end();
    }

    /** A change is allowed to differ in the parts that are named, and in the history, to which it adds one state. */
    private static void changes(String parts, int state, ToIntFunction<BurdenTunes> change) {
        StringBuilder others = new StringBuilder();
        for (String part : PARTS) {
            if (!parts.contains(part) && !part.equals("history")) {
                others.append(part).append(' ');
            }
        }
        leaves(others.toString(), state, change);
    }

    private static void leaves(String parts, int state, ToIntFunction<BurdenTunes> call) {
        for (String part : PARTS) {
            if (parts.contains(part)) {
                BurdenTunes x = States.made(state);
                Due.holds("a call that is no error", call.applyAsInt(x) >= 0);
                String told = told(x, part);
                String want = told(States.made(state), part);
                Due.holds(States.NAMES[state] + ": " + part + " is " + told + ", was " + want, told.equals(want));
            }
        }
    }

    private static String told(BurdenTunes x, String part) {
        StringBuilder text = new StringBuilder(part);
        switch (part) {
            case "settings":
                for (int what = 5; what <= 8; what++) {
                    text.append(' ').append(x.count(what));
                }
                return text.toString();
            case "lines":
                for (int line = 0; line < x.count(0); line++) {
                    text.append(' ').append(Due.lineOf(x, line));
                }
                return text.toString();
            case "phrases":
                for (int phrase = 0; phrase < x.count(1); phrase++) {
                    text.append(' ').append(Due.phraseOf(x, phrase));
                }
                return text.toString();
            case "ballad": return text.append(row(x, false)).toString();
            case "tune": return text.append(row(x, true)).toString();
            case "pad": return text.append(padOf(x)).toString();
            case "slot 0": return text.append(' ').append(bookOf(x, x.restore(0))).toString();
            case "slot 1": return text.append(' ').append(bookOf(x, x.restore(1))).toString();
            default: return text.append(historyOf(x)).toString();
        }
    }

    private static String row(BurdenTunes x, boolean isTune) {
        StringBuilder text = new StringBuilder();
        for (int place = 0; place < x.count(isTune ? 3 : 2); place++) {
            text.append(' ').append(x.at(isTune, place));
        }
        return text.toString();
    }

    private static String bookOf(BurdenTunes x, int answer) {
        if (answer < 0) {
            return "nothing";
        }
        return told(x, "settings") + told(x, "lines") + told(x, "phrases") + told(x, "ballad") + told(x, "tune");
    }

    /** Its length, its fault, and what is in it: a pad without a fault is written where there is room for it. */
    private static String padOf(BurdenTunes x) {
        String text = " " + x.count(9) + " " + x.fault();
        int lines = x.count(0);
        for (int line = 0; line < lines; line++) {
            x.dropLine(0);
        }
        int phrases = x.count(1);
        for (int phrase = 0; phrase < phrases; phrase++) {
            x.dropPhrase(0);
        }
        return text + " " + x.write() + told(x, "lines") + told(x, "phrases");
    }

    private static String historyOf(BurdenTunes x) {
        StringBuilder text = new StringBuilder();
        for (int left = x.count(10); left > 0; left--) {
            text.append(' ').append(x.undo()).append(told(x, "settings")).append(row(x, false)).append(row(x, true));
        }
        return text.append(' ').append(x.undo()).toString();
    }
}
