import java.util.function.ToIntFunction;

/**
 * Calls that change nothing: the answer is held against the one that is due, and the object, now, after each undo,
 * after a restore of each slot and after a write, against one that was made alike, and not called.
 */
final class Unchanged {
    private static final int UNDOS = 7, RESTORES = 2;
    private static final String[][] TOLD = new String[States.COUNT][UNDOS + 1 + RESTORES + 1];

    private Unchanged() {
    }

    static void refused(int state, String call, int want, ToIntFunction<BurdenTunes> does) {
        Due.holds(want + " is an error", want <= -1 && want >= -5);
        by(state, call, want, does);
    }

    static void by(int state, String call, int want, ToIntFunction<BurdenTunes> does) {
        String name = States.NAMES[state] + ": " + call;
        for (int look = 0; look < TOLD[state].length; look++) {
            if (TOLD[state][look] == null) {
                TOLD[state][look] = toldAfter(look, States.made(state));
            }
            BurdenTunes x = States.made(state);
            Due.is(name, does.applyAsInt(x), want);
            String told = toldAfter(look, x);
            if (!told.equals(TOLD[state][look])) {
                Due.holds(name + " changed what look " + look + " sees:\n  " + TOLD[state][look] + " to\n  " + told, false);
            }
        }
    }

    private static String toldAfter(int look, BurdenTunes x) {
        StringBuilder text = new StringBuilder();
        for (int i = 0; i < look && look <= UNDOS; i++) {
            text.append("undo ").append(x.undo()).append(", ");
        }
        if (look > UNDOS && look <= UNDOS + RESTORES) {
            text.append("restore ").append(x.restore(look - UNDOS - 1)).append(", ");
        }
        if (look > UNDOS + RESTORES) {
            makeRoom(x);
            text.append("write ").append(x.write()).append(", ");
        }
        return text.append(States.told(x)).toString();
    }

    private static void makeRoom(BurdenTunes x) {
        for (int lines = x.count(0); lines > 0; lines--) {
            x.dropLine(0);
        }
        for (int phrases = x.count(1); phrases > 0; phrases--) {
            x.dropPhrase(0);
        }
    }
}
