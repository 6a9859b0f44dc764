/** Promises 27 to 29. */
public final class UndoSaveTest {
    private static final int BAD_VALUE = BurdenTunes.BAD_VALUE, NOT_POSSIBLE = BurdenTunes.NOT_POSSIBLE;
    private static final int MIN = Integer.MIN_VALUE, MAX = Integer.MAX_VALUE;

    public static void main(String[] args) {
        promise27UndoOfEachChange();
        promise27UndoHistory();
        promise27UndoLeavesPadAndSlots();
        promise28Save();
        promise29Restore();
        promise29RestoreIsAChange();
        Due.end();
    }

    private static BurdenTunes filled() {
        BurdenTunes x = Due.with("xX;X;xxX", "|sw;|ws.");
        x.sing(0);
        x.sing(2);
        x.play(1);
        x.play(0);
        return x;
    }

    private static void isAsFilled(String when, BurdenTunes x) {
        Due.lines(when, x, "xX", "X", "xxX");
        Due.phrases(when, x, "sw", "ws.");
        Due.ballad(when, x, 0, 2);
        Due.tune(when, x, 1, 0);
        int[] settings = {3, 1, 3, 7};
        for (int setting = 0; setting < 4; setting++) {
            Due.is("setting " + setting + " " + when, x.count(5 + setting), settings[setting]);
        }
    }

    private static void promise27UndoOfEachChange() {
        for (int kind = 0; kind < 18; kind++) {
            BurdenTunes x = filled();
            x.save(1);
            Due.is("change " + kind + " is one", change(x, kind) >= 0 ? 1 : 0, 1);
            Due.is("count(10) after change " + kind, x.count(10), 6);
            Due.is("undo() of change " + kind, x.undo(), 5);
            isAsFilled("after undo of change " + kind, x);
        }
    }

    private static int change(BurdenTunes x, int kind) {
        switch (kind) {
            case 0: case 1: case 2: case 3: return x.set(kind, 2);
            case 4: x.put(Due.number("Xx;|s.s")); return x.write();
            case 5: case 6: case 7: return x.dropLine(kind - 5);
            case 8: case 9: return x.dropPhrase(kind - 8);
            case 10: return x.stress(2, 0, true);
            case 11: return x.beat(1, 2, 2);
            case 12: return x.sing(1);
            case 13: return x.play(0);
            case 14: return x.verse(0, 1, 2);
            case 15: return x.clear(true);
            case 16: return x.clear(false);
            default: return x.restore(1);
        }
    }

    private static void promise27UndoHistory() {
        BurdenTunes x = new BurdenTunes();
        Due.is("undo() of nothing", x.undo(), NOT_POSSIBLE);
        for (int value = 8; value <= 15; value++) {
            x.set(BurdenTunes.HURT, value);
        }
        Due.is("count(10) after 8 changes", x.count(10), 6);
        for (int left = 5; left >= 0; left--) {
            Due.is("undo() to " + left, x.undo(), left);
            Due.is("HURT with " + left + " left", x.count(8), left + 9);
        }
        Due.is("undo() of the seventh change", x.undo(), NOT_POSSIBLE);
        Due.is("HURT then", x.count(8), 9);
        x.set(BurdenTunes.HURT, 9);
        x.set(BurdenTunes.HURT, 1);
        Due.is("undo()", x.undo(), 1);
        x.set(BurdenTunes.HURT, 2);
        Due.is("count(10) after a change that follows undo", x.count(10), 2);
        Due.is("undo()", x.undo(), 1);
        Due.is("HURT", x.count(8), 9);
        Due.is("undo() of a change that changed nothing", x.undo(), 0);
        Due.is("HURT", x.count(8), 9);
        Due.is("undo() at the end", x.undo(), NOT_POSSIBLE);
        for (int value = 0; value < 20; value++) {
            x.set(BurdenTunes.HURT, value);
            x.set(BurdenTunes.LOST, value % 10);
            Due.is("undo() after many", x.undo(), Math.min(value, 4) + 1);
        }
        Due.is("HURT after many", x.count(8), 19);
        Due.is("errors are no changes", x.set(BurdenTunes.HURT, 21), BAD_VALUE);
        for (int left = 4; left >= 0; left--) {
            Due.is("undo() to " + left, x.undo(), left);
            Due.is("HURT with " + left + " left", x.count(8), left + 14);
        }
    }

    private static void promise27UndoLeavesPadAndSlots() {
        BurdenTunes x = Due.with("x");
        x.sing(0);
        x.save(0);
        Due.put(x, "XX");
        Due.is("undo()", x.undo(), 1);
        Due.is("the pad after undo", x.count(9), 2);
        Due.is("restore(0) after undo", x.restore(0), 1);
        Due.ballad("after restore", x, 0);
        Due.is("the pad after restore", x.count(9), 2);
        Due.is("undo() of restore", x.undo(), 1);
        Due.ballad("after undo of restore", x);
        Due.is("undo()", x.undo(), 0);
        Due.is("undo()", x.undo(), NOT_POSSIBLE);
        Due.is("restore(1) that was never saved", x.restore(1), NOT_POSSIBLE);
        Due.is("restore(0) at the end of the history", x.restore(0), 1);
        Due.is("write()", x.write(), 2);
        Due.lines("after all", x, "x", "XX");
    }

    private static void promise28Save() {
        BurdenTunes x = filled();
        Due.is("save(0)", x.save(0), 3);
        Due.is("save(1)", x.save(1), 3);
        Due.is("count(10) after save", x.count(10), 6);
        x.undo();
        Due.is("save(0) with 5 changes", x.save(0), 3);
        Due.is("count(10) after save", x.count(10), 5);
        x.play(0);
        x.save(0);
        x.save(1);
        for (int slot : new int[] {-1, 2, MIN, MAX}) {
            Due.is("save(" + slot + ")", x.save(slot), BAD_VALUE);
        }
        for (int kind = 0; kind < 17; kind++) {
            BurdenTunes y = filled();
            y.save(0);
            change(y, kind);
            Due.is("restore(0) after change " + kind, y.restore(0), 3);
            isAsFilled("after restore of change " + kind, y);
        }
        x.set(BurdenTunes.LOST, 9);
        x.dropLine(1);
        Due.is("save(1)", x.save(1), 2);
        Due.is("restore(0)", x.restore(0), 3);
        isAsFilled("after restore(0)", x);
        Due.is("restore(1)", x.restore(1), 2);
        Due.lines("after restore(1)", x, "xX", "xxX");
        Due.ballad("after restore(1)", x, 0, 1);
        Due.is("LOST after restore(1)", x.count(7), 9);
        Due.is("save(0), over what was there", x.save(0), 2);
        x.dropLine(0);
        Due.is("restore(0)", x.restore(0), 2);
        Due.lines("after restore(0)", x, "xX", "xxX");
        BurdenTunes empty = new BurdenTunes();
        Due.is("save(1) of nothing", empty.save(1), 0);
        Due.write(empty, "x");
        Due.is("restore(0) that was not saved", empty.restore(0), NOT_POSSIBLE);
        Due.is("restore(1) of nothing", empty.restore(1), 0);
        Due.lines("after restore of nothing", empty);
    }

    private static void promise29Restore() {
        BurdenTunes x = new BurdenTunes();
        for (int slot : new int[] {-1, 2, MIN, MAX}) {
            Due.is("restore(" + slot + ")", x.restore(slot), BAD_VALUE);
        }
        Due.is("restore(0)", x.restore(0), NOT_POSSIBLE);
        Due.is("restore(1)", x.restore(1), NOT_POSSIBLE);
        Due.is("count(10) after errors", x.count(10), 0);
        Due.write(x, "x;X");
        x.save(1);
        Due.is("restore(0)", x.restore(0), NOT_POSSIBLE);
        x.dropLine(0);
        Due.is("restore(1)", x.restore(1), 2);
        Due.lines("after restore", x, "x", "X");
        x.stress(0, 0, true);
        x.stress(1, 0, false);
        Due.is("restore(1), which the slot keeps", x.restore(1), 2);
        Due.lines("after restore again", x, "x", "X");
    }

    private static void promise29RestoreIsAChange() {
        BurdenTunes x = Due.with("x");
        x.save(0);
        Due.is("restore(0) that changes nothing", x.restore(0), 1);
        Due.is("count(10)", x.count(10), 2);
        Due.write(x, "X");
        Due.is("restore(0)", x.restore(0), 1);
        Due.is("count(10)", x.count(10), 4);
        Due.is("undo() of restore", x.undo(), 3);
        Due.lines("after undo of restore", x, "x", "X");
        x.undo();
        x.undo();
        x.undo();
        Due.lines("after undo of all", x);
        for (int i = 1; i <= 8; i++) {
            x.restore(0);
            Due.is("count(10) after " + i + " restores", x.count(10), Math.min(i, 6));
        }
    }
}
