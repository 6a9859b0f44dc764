/** Promises 24 to 26. */
public final class TextsTest {
    private static final int BAD_VALUE = BurdenTunes.BAD_VALUE, TOO_MANY = BurdenTunes.TOO_MANY;
    private static final int NONE = BurdenTunes.NONE;
    private static final String SIXTEEN = "xXxXxXxXxXxXxXxX";
    private static final String TWENTY_FOUR = "swswswswswsw.wswswswswsw";

    public static void main(String[] args) {
        promise24Put();
        promise24PutWrong();
        promise24PutFull();
        promise25Wipe();
        promise26Fault();
        textsAreNoChanges();
        Due.end();
    }

    private static void promise24Put() {
        BurdenTunes x = new BurdenTunes();
        Due.is("put(x)", x.put('x'), 1);
        Due.is("put(;X)", x.put(Due.number(";X")), 3);
        Due.is("put(X;|sw.ws)", x.put(Due.number("X;|sw.ws")), 11);
        Due.is("count(9)", x.count(9), 11);
        Due.is("write()", x.write(), 2);
        Due.lines("after put", x, "x", "XX");
        Due.phrases("after put", x, "sw.ws");
        String text = "!~aZ0#~!";
        for (int length = 1; length <= 8; length++) {
            BurdenTunes y = new BurdenTunes();
            Due.is("put of " + length, y.put(Due.number(text.substring(0, length))), length);
        }
        for (int code = 33; code <= 126; code++) {
            BurdenTunes y = new BurdenTunes();
            Due.is("put(" + code + ")", y.put(code), 1);
        }
    }

    private static void promise24PutWrong() {
        BurdenTunes x = new BurdenTunes();
        x.put('x');
        long[] wrong = {0, 32, 127, 128, 255, 10, 1, -1, Long.MIN_VALUE, Long.MAX_VALUE,
            0x78L << 8, 0x78L << 56, 0x780078L, 0x7800000000000078L, 0x0100000000000078L, 1L << 16 | 0x78,
            0x2078, 0x7820, 0x7f78, 0x787f, 0x8078, 0xf878, 0x7878787878787820L, 0x2078787878787878L,
            0xf878787878787878L, 0x78787878ff787878L, 0x7878780078787878L, 0x0078787878787800L, 0x7878787878787800L};
        for (long characters : wrong) {
            Due.is("put(" + characters + ")", x.put(characters), BAD_VALUE);
        }
        Due.is("the pad after errors", x.count(9), 1);
        Due.is("write() after errors", x.write(), 1);
        Due.lines("after errors", x, "x");
    }

    private static void promise24PutFull() {
        BurdenTunes x = new BurdenTunes();
        for (int length = 8; length <= 56; length += 8) {
            Due.is("put of 8", x.put(Due.number("x;x;x;x;")), length);
        }
        Due.is("put of 5, to 61", x.put(Due.number("x;x;x")), TOO_MANY);
        Due.is("put of 8, to 64", x.put(Due.number("x;x;x;xx")), TOO_MANY);
        Due.is("put of 5 with a wrong code", x.put(Due.number("x;x x")), BAD_VALUE);
        Due.is("the pad then", x.count(9), 56);
        Due.is("put of 4, to 60", x.put(Due.number("x;xx")), 60);
        Due.is("put of 1, to 61", x.put('x'), TOO_MANY);
        Due.is("put(0) when full", x.put(0), BAD_VALUE);
        Due.is("put(32) when full", x.put(32), BAD_VALUE);
        Due.is("the pad when full", x.count(9), 60);
        Due.is("the fault when full", x.fault(), NONE);
        Due.is("wipe()", x.wipe(), 60);
        Due.write(x, "x;" + SIXTEEN + ";|" + TWENTY_FOUR + ";|ssssssss;|w.ss");
        Due.lines("of a full pad", x, "x", SIXTEEN);
        Due.phrases("of a full pad", x, TWENTY_FOUR, "ssssssss", "w.ss");
    }

    private static void promise25Wipe() {
        BurdenTunes x = new BurdenTunes();
        Due.is("wipe() of nothing", x.wipe(), 0);
        Due.put(x, "xX;|sws..abc");
        Due.is("wipe()", x.wipe(), 12);
        Due.is("the pad after wipe", x.count(9), 0);
        Due.is("the fault after wipe", x.fault(), 0);
        Due.is("wipe() again", x.wipe(), 0);
        Due.write(x, "X");
        Due.lines("after wipe", x, "X");
    }

    private static void promise26Fault() {
        fault("", 0);
        for (String text : new String[] {"x", "X", "xX", SIXTEEN, "|s", "|w", "|.", "|" + TWENTY_FOUR, "x;X", "x;|s", "|s;x",
            "|s;|w", "x;x;x;|.;x", SIXTEEN + ";|" + TWENTY_FOUR + ";" + SIXTEEN, "x;x;x;x;x;x;x;x;x;x;x;x;x;x;x;x;x;x"}) {
            fault(text, NONE);
        }
        for (String text : new String[] {"|", "x;", "X;|", "|s;", "|s;|", "|s;x;"}) {
            fault(text, text.length());
        }
        for (String sign : new String[] {";", "s", "w", ".", "a", "S", "W", "Y", ":", "!", "~"}) {
            fault(sign, 0);
            fault("x;" + sign, 2);
            fault("|s;" + sign + "x", 3);
        }
        for (String sign : new String[] {"s", "w", ".", "|", "y", "-"}) {
            fault("x" + sign, 1);
            fault("xX" + sign + "x", 2);
            fault("|s;X" + sign, 4);
        }
        for (String sign : new String[] {"x", "X", ";", "|", "S", "W", ","}) {
            fault("|" + sign, 1);
            fault("x;|" + sign + "s", 3);
        }
        for (String sign : new String[] {"x", "X", "|", "S", "W", "_"}) {
            fault("|s" + sign, 2);
            fault("x;|ws" + sign + "s", 5);
        }
        fault(SIXTEEN + "x", 16);
        fault(SIXTEEN + "X;", 16);
        fault(SIXTEEN + ";", 17);
        fault("x;" + SIXTEEN + "x", 18);
        fault("|" + TWENTY_FOUR + "s", 25);
        fault("|" + TWENTY_FOUR + ".", 25);
        fault("|" + TWENTY_FOUR + ";", 26);
        fault("x;|" + TWENTY_FOUR + "w", 27);
        fault("xs;;", 1);
    }

    private static void fault(String text, int want) {
        BurdenTunes x = new BurdenTunes();
        Due.put(x, text);
        Due.is("fault() of " + text, x.fault(), want);
        Due.is("the pad after fault() of " + text, x.count(9), text.length());
    }

    private static void textsAreNoChanges() {
        BurdenTunes x = Due.with("x");
        Due.put(x, "X;X");
        x.fault();
        x.wipe();
        Due.put(x, "X;");
        Due.is("changes after texts", x.count(10), 1);
        Due.is("undo()", x.undo(), 0);
        Due.is("the pad after undo", x.count(9), 2);
        Due.is("the fault after undo", x.fault(), 2);
        Due.put(x, "xX");
        Due.is("write()", x.write(), 2);
        Due.lines("of a pad that undo left", x, "X", "xX");
    }
}
