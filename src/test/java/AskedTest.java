import java.util.function.ToIntFunction;

/**
 * "What there is; nothing changes", "what follows; nothing changes", and that put, wipe, fault and save leave alone
 * what is none of theirs: calls that are answered, not refused, in objects of all kinds.
 */
public final class AskedTest {
    private static final int NONE = BurdenTunes.NONE;

    public static void main(String[] args) {
        for (int state = 0; state < States.COUNT; state++) {
            whatThereIs(state);
            whatFollows(state);
            texts(state);
            saves(state);
        }
        noneChangesNothing();
        Due.end();
    }

    private static void asked(int state, String call, ToIntFunction<BurdenTunes> does) {
        int want = does.applyAsInt(States.made(state));
        Due.holds(call + " is no error", want >= 0 || want == NONE);
        Unchanged.by(state, call, want, does);
    }

    private static void whatThereIs(int state) {
        BurdenTunes made = States.made(state);
        for (int number = 0; number <= 10; number++) {
            int what = number;
            asked(state, "count(" + what, x -> x.count(what));
        }
        for (int number = 0; number < made.count(0); number++) {
            int line = number;
            for (int what = 0; what <= 4; what++) {
                int about = what;
                asked(state, "line(" + line + ", " + what, x -> x.line(line, about));
            }
            asked(state, "isStressed(" + line, x -> x.isStressed(line, 0));
        }
        for (int number = 0; number < made.count(1); number++) {
            int phrase = number;
            for (int what = 0; what <= 5; what++) {
                int about = what;
                asked(state, "phrase(" + phrase + ", " + what, x -> x.phrase(phrase, about));
            }
            asked(state, "kindOf(" + phrase, x -> x.kindOf(phrase, 0));
        }
        for (int number = 0; number < made.count(2); number++) {
            int place = number;
            asked(state, "at(false, " + place, x -> x.at(false, place));
        }
        for (int number = 0; number < made.count(3); number++) {
            int place = number;
            asked(state, "at(true, " + place, x -> x.at(true, place));
        }
    }

    private static void whatFollows(int state) {
        BurdenTunes made = States.made(state);
        int lines = made.count(0);
        for (int number = 0; number < lines * made.count(1); number++) {
            int line = number % lines;
            int phrase = number / lines;
            String of = "(" + line + ", " + phrase;
            for (int what = 0; what <= 4; what++) {
                int about = what;
                asked(state, "fit" + of + ", " + what, x -> x.fit(line, phrase, about));
            }
            for (int what = 0; what <= 1; what++) {
                int about = what;
                asked(state, "lies" + of + ", 0, " + what, x -> x.lies(line, phrase, 0, about));
                asked(state, "bestChange" + of + ", " + what, x -> x.bestChange(line, phrase, about));
            }
            asked(state, "enoughBreath" + of, x -> x.enoughBreath(line, phrase));
        }
        for (int what = 0; what <= 3 && made.count(3) > 0; what++) {
            int about = what;
            asked(state, "whole(" + what, x -> x.whole(about));
        }
        asked(state, "bestPhrase(", x -> x.bestPhrase());
    }

    /** The pad is not part of the book: to fill, to empty and to look at it is no change. */
    private static void texts(int state) {
        asked(state, "fault(", x -> x.fault());
        for (int look = 0; look <= 4; look++) {
            BurdenTunes x = States.made(state);
            String name = States.NAMES[state] + ": wipe and put leave all but the pad, look " + look;
            Due.is(name, x.wipe(), States.made(state).count(9));
            Due.is(name, x.put(Due.number(";|s")), 3);
            Due.is(name, x.fault(), 0);
            Due.is(name, x.wipe(), 3);
            Due.is(name, x.put(Due.number("~~")), 2);
            BurdenTunes other = States.made(state);
            Due.is(name, look(x, look), look(other, look));
            Due.holds(name, States.toldWithoutPad(x).equals(States.toldWithoutPad(other)));
            Due.is(name, x.count(9), 2);
        }
    }

    private static int look(BurdenTunes x, int look) {
        switch (look) {
            case 0: return 0;
            case 1: return x.undo();
            case 2: return x.restore(0);
            case 3: return x.restore(1);
            default:
                for (int undone = 0; undone < 5; undone++) {
                    x.undo();
                }
                return x.undo();
        }
    }

    private static void saves(int state) {
        for (int number = 0; number <= 1; number++) {
            int slot = number;
            String name = States.NAMES[state] + ": save(" + slot + ")";
            Due.is(name, States.made(state).save(slot), States.made(state).count(0));
            alike(name + " changes no book, pad or history", state, x -> x.save(slot), x -> 0);
            alike(name + " is no change", state, x -> x.save(slot), x -> x.undo());
            alike(name + " leaves the other slot", state, x -> x.save(slot), x -> x.restore(1 - slot));
        }
    }

    /** After a call and another one an object tells what one tells that was not asked the first. */
    private static void alike(String what, int state, ToIntFunction<BurdenTunes> first, ToIntFunction<BurdenTunes> second) {
        BurdenTunes x = States.made(state);
        BurdenTunes other = States.made(state);
        first.applyAsInt(x);
        Due.is(what, second.applyAsInt(x), second.applyAsInt(other));
        Due.holds(what, States.told(x).equals(States.told(other)));
    }

    /** "NONE (-6) is not an error", but it changes nothing either. */
    private static void noneChangesNothing() {
        Unchanged.by(States.NEW, "bestPhrase(", NONE, x -> x.bestPhrase());
        Unchanged.by(States.ONLY_LINES, "bestPhrase(", NONE, x -> x.bestPhrase());
        Unchanged.by(States.ONLY_LINES, "line(0, 4", NONE, x -> x.line(0, 4));
        Unchanged.by(States.ONLY_PHRASES, "whole(2", NONE, x -> x.whole(2));
        Unchanged.by(States.SMALL, "fault(", NONE, x -> x.fault());
        Unchanged.by(States.SMALL, "fit(0, 2, 0", NONE, x -> x.fit(0, 2, 0));
        Unchanged.by(States.SMALL, "fit(0, 1, 1", 0, x -> x.fit(0, 1, 1));
        Unchanged.by(States.SMALL, "lies(0, 1, 2, 1", NONE, x -> x.lies(0, 1, 2, 1));
        Unchanged.by(States.SMALL, "bestChange(0, 1, 0", NONE, x -> x.bestChange(0, 1, 0));
        Unchanged.by(States.SMALL, "enoughBreath(0, 1", NONE, x -> x.enoughBreath(0, 1));
    }
}
