/** Promises 27 to 29 at their edges: undo, save and restore. */
public final class HistoryEdgesTest {
    private static final int BAD_VALUE = BurdenTunes.BAD_VALUE, NOT_POSSIBLE = BurdenTunes.NOT_POSSIBLE;
    private static final int KINDS = 21;

    public static void main(String[] args) {
        undoWithNothingToUndo();
        eachChangeIsRecordedOnce();
        whatWasRecordedBeforeIsKept();
        aSeventhChangeOfEachKind();
        aChangeThatChangesNothingIsRecorded();
        anErrorIsNotRecorded();
        undoIsNoChange();
        aChangeAfterUndo();
        undoOfFullThings();
        undoLeavesThePad();
        undoLeavesTheSlots();
        undoOfAllSettings();
        restoreOfAllSettings();
        nothingSavedInASlot();
        anEmptyBookIsSomethingSaved();
        saveOverwrites();
        saveKeepsWhatWas();
        slotsAreApart();
        aSlotHasNoPadNoHistoryAndNoSlots();
        aSlotKeepsWhatWasSaved();
        restoreIsAChange();
        aSlotKeepsAFullBook();
        linesOfOtherLengthsComeBack();
        Due.end();
    }

    private static BurdenTunes filled() {
        BurdenTunes x = Due.with("xX;X;xxX", "|sw;|ws.");
        x.sing(0);
        x.sing(2);
        x.play(1);
        x.save(1);
        return x;
    }

    /** A change of each method, with what it answers that can be answered; the last ones change nothing. */
    private static int change(BurdenTunes x, int kind) {
        switch (kind) {
            case 0: case 1: case 2: case 3: return x.set(kind, 2);
            case 4: x.put(Due.number("Xx;|s.s")); return x.write();
            case 5: return x.dropLine(0);
            case 6: return x.dropLine(1);
            case 7: return x.dropPhrase(1);
            case 8: return x.stress(1, 0, true);
            case 9: return x.beat(1, 1, 2);
            case 10: return x.sing(1);
            case 11: return x.play(0);
            case 12: return x.verse(0, 1, 1);
            case 13: return x.clear(true);
            case 14: return x.clear(false);
            case 15: return x.restore(1);
            case 16: return x.set(BurdenTunes.HURT, 7);
            case 17: return x.stress(0, 1, true);
            case 18: return x.beat(0, 0, 2);
            case 19: x.put('x'); return x.write();
            default: x.put(Due.number("|.")); return x.write();
        }
    }

    /** "NOT_POSSIBLE if there is none": in a new object, after the last one, and again and again. */
    private static void undoWithNothingToUndo() {
        BurdenTunes x = new BurdenTunes();
        for (int i = 0; i < 3; i++) {
            Due.is("undo() of nothing", x.undo(), NOT_POSSIBLE);
            Due.is("count(10) then", x.count(10), 0);
        }
        x.set(BurdenTunes.LOST, 5);
        Due.is("undo()", x.undo(), 0);
        Due.is("LOST then", x.count(7), 3);
        for (int i = 0; i < 3; i++) {
            Due.is("undo() of nothing", x.undo(), NOT_POSSIBLE);
            Due.is("LOST then", x.count(7), 3);
        }
        x.set(BurdenTunes.LOST, 5);
        Due.is("count(10) after a change", x.count(10), 1);
        Due.is("undo()", x.undo(), 0);
        Due.is("undo() of nothing", x.undo(), NOT_POSSIBLE);
    }

    /** "Each method that is a change, and returns no error, records the state before it." */
    private static void eachChangeIsRecordedOnce() {
        for (int kind = 0; kind < KINDS; kind++) {
            BurdenTunes x = filled();
            x.undo();
            x.undo();
            BurdenTunes other = filled();
            other.undo();
            other.undo();
            int before = x.count(10);
            Due.holds("change " + kind + " is answered", change(x, kind) >= 0);
            Due.is("count(10) after change " + kind, x.count(10), before + 1);
            Due.is("undo() of change " + kind, x.undo(), before);
            Due.holds("undo() of change " + kind + " brings all back", States.told(x).equals(States.told(other)));
            Due.is("undo() of what was before change " + kind, x.undo(), other.undo());
            Due.holds("what was before change " + kind + " is there", States.told(x).equals(States.told(other)));
        }
    }

    /** Five of the six states before a change are there after it, and nothing of them has changed. */
    private static void whatWasRecordedBeforeIsKept() {
        for (int kind = 0; kind < KINDS; kind++) {
            for (int undone = 0; undone <= 5; undone++) {
                BurdenTunes x = States.made(States.SMALL);
                BurdenTunes other = States.made(States.SMALL);
                x.wipe();
                other.wipe();
                Due.holds("change " + kind + " is answered", change(x, kind) >= 0);
                Due.is("undo() of change " + kind, x.undo(), 5);
                for (int i = 1; i <= undone; i++) {
                    Due.is("undo() of what was before change " + kind, x.undo(), 5 - i);
                    Due.is("undo() without change " + kind, other.undo(), 6 - i);
                }
                Due.holds(undone + " before change " + kind + " is as it was", bookOf(x).equals(bookOf(other)));
            }
        }
    }

    /** "A history of at most 6 states is kept; .. when one more is recorded, the oldest one is dropped." */
    private static void aSeventhChangeOfEachKind() {
        for (int kind = 0; kind < KINDS; kind++) {
            BurdenTunes x = filled();
            // The history of six: HURT was 10 to 15 before each of them, and is 16 now.
            for (int hurt = 10; hurt <= 16; hurt++) {
                x.set(BurdenTunes.HURT, hurt);
            }
            Due.is("count(10) before change " + kind, x.count(10), 6);
            change(x, kind);
            Due.is("count(10) after change " + kind, x.count(10), 6);
            for (int undone = 1; undone <= 6; undone++) {
                Due.is("undo() " + undone + " after change " + kind, x.undo(), 6 - undone);
                Due.is("HURT after undo " + undone + " of change " + kind, x.count(8), 17 - undone);
            }
            Due.is("undo() 7 after change " + kind, x.undo(), NOT_POSSIBLE);
            Due.is("HURT then", x.count(8), 11);
        }
    }

    /** "(Also if nothing is different then.)" */
    private static void aChangeThatChangesNothingIsRecorded() {
        BurdenTunes x = Due.with("xX;|w.");
        int changes = 1;
        for (int setting = 0; setting < 4; setting++) {
            int value = x.count(5 + setting);
            Due.is("set to the value it has", x.set(setting, value), value);
            Due.is("count(10) then", x.count(10), Math.min(++changes, 6));
        }
        BurdenTunes y = Due.with("xX;|w.");
        String before = States.told(y);
        Due.is("stress that was", y.stress(0, 1, true), 1);
        Due.is("count(10) then", y.count(10), 2);
        Due.is("no stress that was none", y.stress(0, 0, false), 0);
        Due.is("count(10) then", y.count(10), 3);
        Due.is("a beat of its kind", y.beat(0, 0, 1), 1);
        Due.is("count(10) then", y.count(10), 4);
        Due.is("clear(true) of an empty tune", y.clear(true), 0);
        Due.is("count(10) then", y.count(10), 5);
        Due.is("clear(false) of an empty ballad", y.clear(false), 0);
        Due.is("count(10) then", y.count(10), 6);
        for (int left = 5; left >= 1; left--) {
            Due.is("undo()", y.undo(), left);
        }
        Due.holds("five changes that changed nothing are undone", States.told(y).equals(before));
        y.save(0);
        Due.is("restore of what is there", y.restore(0), 1);
        Due.is("count(10) then", y.count(10), 2);
        Due.is("undo()", y.undo(), 1);
        Due.holds("a restore that changed nothing is undone", States.told(y).equals(before));
    }

    private static void anErrorIsNotRecorded() {
        BurdenTunes x = Due.with("x;|s");
        x.sing(0);
        int[] errors = {x.set(4, 0), x.set(0, 9), x.write(), x.dropLine(1), x.dropPhrase(1), x.stress(0, 1, true), x.beat(0, 1, 0),
            x.beat(0, 0, 3), x.sing(1), x.play(1), x.verse(0, 0, 1), x.restore(0), x.restore(2), x.save(2), x.put(0)};
        for (int error : errors) {
            Due.holds("an error", error <= -1 && error >= -5);
        }
        Due.is("count(10) after errors", x.count(10), 2);
        Due.is("undo() after errors", x.undo(), 1);
        Due.ballad("after undo", x);
    }

    private static void undoIsNoChange() {
        BurdenTunes x = Due.with("x");
        x.sing(0);
        x.sing(0);
        Due.is("undo()", x.undo(), 2);
        Due.is("undo()", x.undo(), 1);
        Due.is("undo()", x.undo(), 0);
        Due.lines("after undo of all", x);
        Due.is("undo()", x.undo(), NOT_POSSIBLE);
    }

    /** What was undone is gone; the history goes on from what is there. */
    private static void aChangeAfterUndo() {
        BurdenTunes x = new BurdenTunes();
        for (int hurt = 1; hurt <= 9; hurt++) {
            x.set(BurdenTunes.HURT, hurt);
        }
        Due.is("undo()", x.undo(), 5);
        Due.is("undo()", x.undo(), 4);
        Due.is("HURT", x.count(8), 7);
        Due.is("set(HURT, 20)", x.set(BurdenTunes.HURT, 20), 7);
        Due.is("count(10)", x.count(10), 5);
        Due.is("set(HURT, 19)", x.set(BurdenTunes.HURT, 19), 20);
        Due.is("count(10)", x.count(10), 6);
        Due.is("set(HURT, 18)", x.set(BurdenTunes.HURT, 18), 19);
        Due.is("count(10)", x.count(10), 6);
        int[] hurts = {19, 20, 7, 6, 5, 4};
        for (int undone = 0; undone < 6; undone++) {
            Due.is("undo()", x.undo(), 5 - undone);
            Due.is("HURT after undo " + undone, x.count(8), hurts[undone]);
        }
        Due.is("undo()", x.undo(), NOT_POSSIBLE);
    }

    /** Full lines, phrases, ballad and tune come back as they were. */
    private static void undoOfFullThings() {
        for (int change = 0; change < 6; change++) {
            BurdenTunes x = States.made(States.FULL);
            BurdenTunes other = States.made(States.FULL);
            switch (change) {
                case 0: x.dropLine(0); break;
                case 1: x.dropLine(15); break;
                case 2: x.dropPhrase(0); break;
                case 3: x.dropPhrase(7); break;
                case 4: x.clear(true); break;
                default: x.clear(false);
            }
            Due.is("undo() of change " + change + " when full", x.undo(), 5);
            // The change has made the oldest state go.
            other.set(BurdenTunes.HURT, 7);
            other.undo();
            Due.holds("undo() of change " + change + " when full", States.told(x).equals(States.told(other)));
        }
    }

    /** "Everything except the pad, ..": what is put stays, and what was written does not come back to the pad. */
    private static void undoLeavesThePad() {
        BurdenTunes x = new BurdenTunes();
        Due.put(x, "xX;|s");
        x.write();
        Due.is("undo() of write", x.undo(), 0);
        Due.is("the pad then", x.count(9), 0);
        Due.is("fault() then", x.fault(), 0);
        Due.put(x, "X~");
        x.set(BurdenTunes.HURT, 1);
        Due.is("wipe()", x.wipe(), 2);
        Due.is("undo() of set", x.undo(), 0);
        Due.is("the pad, wiped after set", x.count(9), 0);
        x.set(BurdenTunes.HURT, 1);
        Due.put(x, "XX");
        Due.is("undo() of set", x.undo(), 0);
        Due.is("the pad, put after set", x.count(9), 2);
        Due.is("write()", x.write(), 1);
        Due.lines("of the pad", x, "XX");
    }

    /** "Everything except .. the slots": what was saved after the change, too. */
    private static void undoLeavesTheSlots() {
        BurdenTunes x = Due.with("x");
        x.sing(0);
        x.save(0);
        x.save(1);
        x.sing(0);
        x.save(1);
        Due.is("undo()", x.undo(), 2);
        Due.is("undo()", x.undo(), 1);
        Due.is("undo()", x.undo(), 0);
        Due.is("restore(1)", x.restore(1), 1);
        Due.ballad("of slot 1", x, 0, 0);
        Due.is("restore(0)", x.restore(0), 1);
        Due.ballad("of slot 0", x, 0);
    }

    private static void undoOfAllSettings() {
        BurdenTunes x = new BurdenTunes();
        int[] firsts = {3, 1, 3, 7};
        for (int setting = 0; setting < 4; setting++) {
            x.set(setting, 8);
        }
        for (int setting = 3; setting >= 0; setting--) {
            Due.is("undo() of setting " + setting, x.undo(), setting);
            for (int other = 0; other < 4; other++) {
                Due.is("setting " + other + " then", x.count(5 + other), other < setting ? 8 : firsts[other]);
            }
        }
    }

    private static void restoreOfAllSettings() {
        BurdenTunes x = Due.with("xX;Xx;|w.s;|.w");
        int[] values = {8, 0, 9, 20};
        int[] others = {1, 9, 0, 0};
        for (int setting = 0; setting < 4; setting++) {
            x.set(setting, values[setting]);
        }
        x.save(1);
        for (int setting = 0; setting < 4; setting++) {
            x.set(setting, others[setting]);
        }
        x.beat(0, 0, 0);
        x.stress(0, 0, true);
        Due.is("restore(1)", x.restore(1), 2);
        for (int setting = 0; setting < 4; setting++) {
            Due.is("setting " + setting + " after restore", x.count(5 + setting), values[setting]);
        }
        Due.lines("after restore", x, "xX", "Xx");
        Due.phrases("after restore", x, "w.s", ".w");
        Due.is("undo() of restore", x.undo(), 5);
        for (int setting = 0; setting < 4; setting++) {
            Due.is("setting " + setting + " after undo", x.count(5 + setting), others[setting]);
        }
        Due.lines("after undo", x, "XX", "Xx");
        Due.phrases("after undo", x, "..s", ".w");
    }

    /** "NOT_POSSIBLE if nothing was saved in it." */
    private static void nothingSavedInASlot() {
        BurdenTunes x = Due.with("x");
        Due.is("restore(0)", x.restore(0), NOT_POSSIBLE);
        Due.is("restore(1)", x.restore(1), NOT_POSSIBLE);
        Due.is("save(2)", x.save(2), BAD_VALUE);
        Due.is("save(-1)", x.save(-1), BAD_VALUE);
        Due.is("restore(0) after errors", x.restore(0), NOT_POSSIBLE);
        Due.is("restore(1) after errors", x.restore(1), NOT_POSSIBLE);
        Due.is("save(1)", x.save(1), 1);
        Due.is("restore(0), the other slot", x.restore(0), NOT_POSSIBLE);
        Due.is("count(10)", x.count(10), 1);
        Due.lines("then", x, "x");
    }

    private static void anEmptyBookIsSomethingSaved() {
        BurdenTunes x = new BurdenTunes();
        Due.is("save(0) of a new object", x.save(0), 0);
        Due.is("restore(0) of it", x.restore(0), 0);
        Due.is("count(10)", x.count(10), 1);
        Due.write(x, "x;|s");
        x.set(BurdenTunes.BREATH, 8);
        Due.is("restore(0)", x.restore(0), 0);
        Due.lines("then", x);
        Due.phrases("then", x);
        Due.is("BREATH then", x.count(5), 3);
        Due.is("bestPhrase() then", x.bestPhrase(), BurdenTunes.NONE);
        Due.is("restore(1)", x.restore(1), NOT_POSSIBLE);
    }

    /** "And overwrites what was saved there." */
    private static void saveOverwrites() {
        BurdenTunes x = Due.with("xX;X;|sw");
        x.sing(1);
        x.play(0);
        Due.is("save(0)", x.save(0), 2);
        x.dropLine(0);
        x.dropPhrase(0);
        x.set(BurdenTunes.HURT, 0);
        Due.is("save(0) again", x.save(0), 1);
        x.dropLine(0);
        Due.is("restore(0)", x.restore(0), 1);
        Due.lines("then", x, "X");
        Due.phrases("then", x);
        Due.ballad("then", x, 0);
        Due.tune("then", x);
        Due.is("HURT then", x.count(8), 0);
    }

    /** What is saved is what was there then: later changes of each kind do not reach it. */
    private static void saveKeepsWhatWas() {
        for (int kind = 0; kind < KINDS; kind++) {
            BurdenTunes x = filled();
            x.save(0);
            change(x, kind);
            x.restore(0);
            BurdenTunes other = filled();
            other.save(0);
            change(other, 16);
            other.restore(0);
            Due.holds("save holds against change " + kind, States.told(x).equals(States.told(other)));
        }
    }

    private static void slotsAreApart() {
        BurdenTunes x = new BurdenTunes();
        x.set(BurdenTunes.HURT, 1);
        x.save(0);
        x.set(BurdenTunes.HURT, 2);
        x.save(1);
        x.set(BurdenTunes.HURT, 3);
        Due.is("restore(0)", x.restore(0), 0);
        Due.is("HURT of slot 0", x.count(8), 1);
        Due.is("restore(1)", x.restore(1), 0);
        Due.is("HURT of slot 1", x.count(8), 2);
        Due.is("restore(0)", x.restore(0), 0);
        Due.is("HURT of slot 0", x.count(8), 1);
        x.save(1);
        x.set(BurdenTunes.HURT, 3);
        x.restore(1);
        Due.is("HURT of slot 1 then", x.count(8), 1);
    }

    /** "Everything except the pad, the history and the slots": restore leaves these three, but that it is a change. */
    private static void aSlotHasNoPadNoHistoryAndNoSlots() {
        BurdenTunes x = Due.with("x");
        Due.put(x, "X;|s");
        Due.is("save(0)", x.save(0), 1);
        Due.is("the pad after save", x.count(9), 4);
        Due.is("count(10) after save", x.count(10), 1);
        x.wipe();
        Due.put(x, "XX");
        x.sing(0);
        x.sing(0);
        x.save(1);
        Due.is("restore(0)", x.restore(0), 1);
        Due.is("the pad after restore", x.count(9), 2);
        Due.is("count(10) after restore", x.count(10), 4);
        Due.is("write()", x.write(), 2);
        Due.lines("of the pad that was put after save", x, "x", "XX");
        Due.is("restore(1), saved after slot 0", x.restore(1), 1);
        Due.ballad("of slot 1", x, 0, 0);
        x.restore(0);
        x.wipe();
        Due.put(x, "~");
        x.restore(0);
        Due.is("the fault after restore", x.fault(), 0);
        Due.is("the pad after restore", x.wipe(), 1);
    }

    /** "Restores what was saved last in a slot, which keeps it": what is done to the restored does not reach it. */
    private static void aSlotKeepsWhatWasSaved() {
        for (int kind = 0; kind < KINDS; kind++) {
            BurdenTunes x = filled();
            x.restore(1);
            String saved = bookOf(x);
            change(x, kind);
            Due.is("restore(1) after change " + kind, x.restore(1), 3);
            Due.holds("restore(1) after change " + kind + " is as before", bookOf(x).equals(saved));
            change(x, kind);
            x.undo();
            x.undo();
            Due.is("restore(1) after undo", x.restore(1), 3);
            Due.holds("restore(1) after undo is as before", bookOf(x).equals(saved));
        }
    }

    /** All that is told but how many changes can be undone. */
    private static String bookOf(BurdenTunes x) {
        return States.told(x).replaceFirst(" \\d+, fault", ", fault");
    }

    private static void restoreIsAChange() {
        BurdenTunes x = Due.with("x;X");
        x.save(0);
        x.dropLine(0);
        x.set(BurdenTunes.HURT, 2);
        Due.is("restore(0)", x.restore(0), 2);
        Due.is("count(10)", x.count(10), 4);
        Due.is("undo() of restore", x.undo(), 3);
        Due.lines("after undo of restore", x, "X");
        Due.is("HURT after undo of restore", x.count(8), 2);
        for (int i = 0; i < 8; i++) {
            Due.is("restore(0)", x.restore(0), 2);
        }
        Due.is("count(10) after eight restores", x.count(10), 6);
        for (int left = 5; left >= 0; left--) {
            Due.is("undo()", x.undo(), left);
            Due.lines("after undo", x, "x", "X");
        }
        Due.is("undo() of the seventh restore from the end", x.undo(), NOT_POSSIBLE);
    }

    /** 16 lines with 16 syllables are too long for one pad: they are written one by one. */
    private static void aSlotKeepsAFullBook() {
        BurdenTunes x = new BurdenTunes();
        for (int line = 0; line < 16; line++) {
            Due.write(x, "x".repeat(line) + "X" + "x".repeat(15 - line));
        }
        for (int phrase = 0; phrase < 8; phrase++) {
            Due.write(x, "|" + "w".repeat(3 * phrase) + "s." + "w".repeat(22 - 3 * phrase));
            x.play(Math.min(phrase, 7 - phrase));
        }
        x.verse(0, 15, 15);
        x.verse(12, 15, 0);
        x.save(0);
        x.clear(true);
        x.clear(false);
        for (int line = 0; line < 16; line++) {
            x.dropLine(0);
        }
        for (int phrase = 0; phrase < 8; phrase++) {
            x.dropPhrase(0);
        }
        Due.is("restore(0) of 16 lines", x.restore(0), 16);
        for (int line = 0; line < 16; line++) {
            Due.is("line(" + line + ", 0)", x.line(line, 0), 16);
            Due.is("line(" + line + ", 1)", x.line(line, 1), 1);
            Due.is("isStressed(" + line + ", " + line + ")", x.isStressed(line, line), 1);
        }
        for (int phrase = 0; phrase < 8; phrase++) {
            Due.is("phrase(" + phrase + ", 0)", x.phrase(phrase, 0), 24);
            Due.is("kindOf the strong beat of " + phrase, x.kindOf(phrase, 3 * phrase), 2);
            Due.is("kindOf the rest of " + phrase, x.kindOf(phrase, 3 * phrase + 1), 0);
            Due.is("at(true, " + phrase + ")", x.at(true, phrase), Math.min(phrase, 7 - phrase));
        }
        for (int place = 0; place < 40; place++) {
            int line = place < 32 ? place / 2 : 12 + (place - 32) / 2;
            int burden = place < 32 ? 15 : 0;
            Due.is("at(false, " + place + ")", x.at(false, place), place % 2 == 0 ? line : burden);
        }
    }

    /** By undo and by restore, after lines and phrases of other lengths have stood in their places. */
    private static void linesOfOtherLengthsComeBack() {
        String[] lines = {"x", "XX", "xXx", "XXXX", "x", "XX", "xXx", "XXXX", "x", "XX", "xXx", "XXXX", "x", "XX", "xXx", "XXXX"};
        String[] phrases = {"s", "ww", "...", "swsw", "s", "ww", "...", "swsw"};
        BurdenTunes x = Due.with(String.join(";", lines), "|" + String.join(";|", phrases));
        x.save(0);
        x.dropLine(0);
        x.dropPhrase(0);
        Due.write(x, "xxxxx;|wwwww");
        Due.is("restore(0)", x.restore(0), 16);
        Due.lines("after restore", x, lines);
        Due.phrases("after restore", x, phrases);
        x.dropLine(15);
        x.dropPhrase(7);
        Due.write(x, "xxxxxxx;|wwwwwww");
        for (int left = 5; left >= 3; left--) {
            Due.is("undo()", x.undo(), left);
        }
        Due.lines("after undo", x, lines);
        Due.phrases("after undo", x, phrases);
    }
}
