/** Promises 18 to 23. */
public final class LayingTest {
    private static final int NO_SUCH = BurdenTunes.NO_SUCH, BAD_VALUE = BurdenTunes.BAD_VALUE;
    private static final int NOT_POSSIBLE = BurdenTunes.NOT_POSSIBLE, NONE = BurdenTunes.NONE;
    private static final int MIN = Integer.MIN_VALUE, MAX = Integer.MAX_VALUE;
    private static final int[] OUTSIDE = {-1, 3, MIN, MAX};

    public static void main(String[] args) {
        promise18Fit();
        promise18FitWrong();
        promise18FitManyWays();
        promise19Lies();
        promise19LiesWrong();
        promise18And19AgainstAllWays();
        promise20Whole();
        promise20WholeWrong();
        promise21BestPhrase();
        promise22BestChange();
        promise22BestChangeWrong();
        promise23EnoughBreath();
        promises22And23AgainstAllWays();
        Due.end();
    }

    private static BurdenTunes with(int[] settings, String text) {
        BurdenTunes x = Due.with(text);
        for (int setting = 0; setting < settings.length; setting++) {
            x.set(setting, settings[setting]);
        }
        return x;
    }

    /** What fit tells of line 0 on phrase 0. */
    private static void fit(int[] settings, String text, int... want) {
        BurdenTunes x = with(settings, text);
        for (int what = 0; what < want.length; what++) {
            Due.is("fit(0, 0, " + what + ") of " + text, x.fit(0, 0, what), want[what]);
        }
    }

    private static void promise18Fit() {
        int[] first = {3, 1, 3, 7};
        fit(first, "Xx;|sw", 0, 1, 1, 0, 0);
        fit(first, "xX;|sw", 14, 1, 1, 0, 2);
        fit(first, "X;|sw", 1, 3, 1, 0, 0);
        fit(first, "x;|sw", 3, 3, 1, 1, 0);
        fit(first, "X;|w", 7, 1, 1, 0, 1);
        fit(first, "xX;|w.s", 0, 1, 1, 0, 0);
        fit(first, "x;|w.w", 3, 2, 2, 1, 0);
        fit(first, "x;|.w.", 0, 1, 1, 0, 0);
        fit(first, "x;|wwww", 5, 9, 2, 1, 0);
        fit(first, "xx;|ww.w", 1, 4, 1, 0, 0);
        fit(new int[] {1, 1, 3, 7}, "x;|wwww", 9, 4, 4, 3, 0);
        fit(new int[] {8, 1, 3, 7}, "x;|wwww", 3, 10, 1, 0, 0);
        fit(new int[] {3, 3, 3, 7}, "X;|sw", 3, 3, 2, 1, 0);
        fit(new int[] {3, 0, 3, 7}, "X;|sw", 0, 3, 1, 0, 0);
        fit(new int[] {3, 1, 0, 7}, "X;|sw", 0, 3, 1, 1, 0);
        fit(new int[] {3, 1, 3, 0}, "X;|w", 0, 1, 1, 0, 1);
        fit(new int[] {3, 1, 3, 0}, "x;|s", 0, 1, 1, 0, 1);
        fit(new int[] {3, 9, 9, 20}, "X;|w.w", 29, 2, 2, 1, 1);
        fit(new int[] {3, 1, 8, 7}, "x;|sw", 8, 3, 2, 0, 1);
        for (String text : new String[] {"xx;|w", "x;|.", "Xx;|.s.", "xxx;|w.w"}) {
            fit(first, text, NONE, 0, 0, NONE, NONE);
        }
        // Each number asked first, and after another line.
        int[] want = {3, 3, 1, 1, 0};
        int[] wantOther = {1, 3, 1, 0, 0};
        for (int what = 0; what < want.length; what++) {
            BurdenTunes x = Due.with("x;X;|sw");
            Due.is("fit(0, 0, " + what + ") at first", x.fit(0, 0, what), want[what]);
            Due.is("fit(1, 0, " + what + ") after it", x.fit(1, 0, what), wantOther[what]);
            Due.is("fit(0, 0, " + what + ") again", x.fit(0, 0, what), want[what]);
        }
    }

    private static void promise18FitWrong() {
        BurdenTunes x = Due.with("x;xxx;X", "|w;|.;|s");
        for (int number : OUTSIDE) {
            for (int what = -1; what <= 5; what++) {
                Due.is("fit(" + number + ", 0, " + what + ")", x.fit(number, 0, what), NO_SUCH);
                Due.is("fit(0, " + number + ", " + what + ")", x.fit(0, number, what), NO_SUCH);
            }
        }
        for (int what : new int[] {-1, 5, MIN, MAX}) {
            Due.is("fit(0, 0, " + what + ")", x.fit(0, 0, what), BAD_VALUE);
            Due.is("fit(1, 1, " + what + ")", x.fit(1, 1, what), BAD_VALUE);
        }
        BurdenTunes y = Due.with("x");
        Due.is("fit(0, 0, 0) without phrases", y.fit(0, 0, 0), NO_SUCH);
        BurdenTunes z = Due.with("|w");
        Due.is("fit(0, 0, 0) without lines", z.fit(0, 0, 0), NO_SUCH);
    }

    private static void promise18FitManyWays() {
        // With one beat a syllable the ways are those to choose 8, 9 and 16 of 24.
        BurdenTunes x = Due.with("xxxxxxxx;xxxxxxxxx;xxxxxxxxxxxxxxxx", "|" + "w".repeat(24));
        x.set(BurdenTunes.BREATH, 1);
        int[] want = {735471, 1000000, 735471};
        int[] free = {16, 15, 8};
        for (int line = 0; line < 3; line++) {
            Due.is("fit(" + line + ", 0, 1)", x.fit(line, 0, 1), want[line]);
            Due.is("fit(" + line + ", 0, 2)", x.fit(line, 0, 2), want[line]);
            Due.is("fit(" + line + ", 0, 0)", x.fit(line, 0, 0), 3 * free[line]);
            Due.is("fit(" + line + ", 0, 3)", x.fit(line, 0, 3), free[line]);
        }
        x.set(BurdenTunes.BREATH, 8);
        for (int line = 0; line < 3; line++) {
            Due.is("fit(" + line + ", 0, 1) with BREATH 8", x.fit(line, 0, 1), 1000000);
        }
        // All beats are held: the ways to part 24 beats into 16 pieces, but the 16 with a piece of 9 beats.
        Due.is("fit(2, 0, 2) with BREATH 8", x.fit(2, 0, 2), 490314 - 16);
        x.set(BurdenTunes.DRAWN, 9);
        x.set(BurdenTunes.LOST, 9);
        x.set(BurdenTunes.HURT, 20);
        x.stress(2, 0, true);
        Due.is("the greatest costs", x.fit(2, 0, 0), 8 * 9 + 20);
        x.set(BurdenTunes.LOST, 0);
        Due.is("fit(0, 0, 2) where free beats cost nothing", x.fit(0, 0, 2), 735471);
        Due.is("fit(1, 0, 2) where free beats cost nothing", x.fit(1, 0, 2), 1000000);
    }

    /** The first beat and the number of beats of each syllable of line 0 on phrase 0. */
    private static void lies(int[] settings, String text, int... want) {
        BurdenTunes x = with(settings, text);
        for (int i = 0; i < want.length; i++) {
            Due.is("lies(0, 0, " + i / 2 + ", " + i % 2 + ") of " + text, x.lies(0, 0, i / 2, i % 2), want[i]);
        }
    }

    private static void promise19Lies() {
        int[] first = {3, 1, 3, 7};
        lies(first, "Xx;|sw", 0, 1, 1, 1);
        lies(first, "X;|sw", 0, 2);
        lies(first, "x;|sw", 1, 1);
        lies(first, "xX;|w.s", 0, 1, 2, 1);
        lies(first, "xXx;|w..s.www", 0, 1, 3, 1, 5, 3);
        lies(first, "x;|wwww", 0, 3);
        lies(new int[] {8, 1, 3, 7}, "x;|wwww", 0, 4);
        lies(new int[] {1, 1, 3, 7}, "x;|.www", 1, 1);
        lies(new int[] {3, 3, 3, 7}, "x;|ww", 0, 1);
        lies(new int[] {3, 3, 3, 7}, "xx;|www", 0, 1, 1, 1);
        // 8 either way: to begin early goes before to have few beats.
        lies(new int[] {3, 1, 8, 7}, "x;|sw", 0, 2);
        lies(new int[] {3, 1, 8, 7}, "xx;|wsw", 0, 2, 2, 1);
        lies(new int[] {3, 3, 3, 0}, "Xx;|wws.ww", 0, 1, 1, 1);
        lies(new int[] {3, 1, 3, 7}, "xx;|wwww", 0, 1, 1, 3);
        lies(new int[] {2, 1, 3, 7}, "xx;|wwww", 0, 2, 2, 2);
        lies(new int[] {8, 1, 9, 0}, "xxx;|www.ww", 0, 1, 1, 2, 4, 2);
    }

    private static void promise19LiesWrong() {
        BurdenTunes x = Due.with("x;xxx;XX", "|w;|.;|ss");
        for (int number : OUTSIDE) {
            for (int what = -1; what <= 2; what++) {
                Due.is("lies(" + number + ", 0, 0, " + what + ")", x.lies(number, 0, 0, what), NO_SUCH);
                Due.is("lies(0, " + number + ", 0, " + what + ")", x.lies(0, number, 0, what), NO_SUCH);
                Due.is("lies(1, 0, " + number + ", " + what + ")", x.lies(1, 0, number, what), NO_SUCH);
            }
        }
        Due.is("lies(0, 0, 1, 0)", x.lies(0, 0, 1, 0), NO_SUCH);
        Due.is("lies(2, 2, 2, 1)", x.lies(2, 2, 2, 1), NO_SUCH);
        for (int what : new int[] {-1, 2, MIN, MAX}) {
            Due.is("lies(0, 0, 0, " + what + ")", x.lies(0, 0, 0, what), BAD_VALUE);
            Due.is("lies(1, 1, 2, " + what + ")", x.lies(1, 1, 2, what), BAD_VALUE);
        }
        Due.is("lies(0, 1, 0, 0)", x.lies(0, 1, 0, 0), NONE);
        Due.is("lies(1, 2, 0, 1)", x.lies(1, 2, 0, 1), NONE);
        Due.is("lies(2, 2, 1, 0)", x.lies(2, 2, 1, 0), 1);
    }

    private static final String[] SHORT_LINES = {"x", "X", "xx", "xX", "Xx", "XX", "xxx", "xxX", "xXx", "xXX", "Xxx", "XxX", "XXx", "XXX"};
    private static final int[][] SETTINGS = {{3, 1, 3, 7}, {1, 1, 3, 7}, {2, 2, 2, 2}, {8, 0, 0, 0}, {8, 3, 3, 0},
        {2, 1, 8, 7}, {4, 9, 9, 20}, {5, 0, 9, 1}, {3, 9, 0, 5}};

    /** All phrases of 1 to 5 beats. */
    private static String[] shortPhrases() {
        String[] phrases = new String[3 + 9 + 27 + 81 + 243];
        int count = 0;
        for (int length = 1, many = 3; length <= 5; length++, many *= 3) {
            for (int number = 0; number < many; number++) {
                StringBuilder phrase = new StringBuilder();
                for (int i = 0, rest = number; i < length; i++, rest /= 3) {
                    phrase.append(".ws".charAt(rest % 3));
                }
                phrases[count++] = phrase.toString();
            }
        }
        return phrases;
    }

    private static void promise18And19AgainstAllWays() {
        String lines = String.join(";", SHORT_LINES);
        for (String phrase : shortPhrases()) {
            for (int[] settings : SETTINGS) {
                BurdenTunes x = with(settings, lines + ";|" + phrase);
                for (int line = 0; line < SHORT_LINES.length; line++) {
                    againstAllWays(x, line, new Ways(SHORT_LINES[line], phrase, settings), SHORT_LINES[line] + " on " + phrase);
                }
            }
        }
    }

    private static void againstAllWays(BurdenTunes x, int line, Ways ways, String name) {
        Due.is("fit 0 of " + name, x.fit(line, 0, 0), ways.isLaid() ? ways.leastCost : NONE);
        Due.is("fit 1 of " + name, x.fit(line, 0, 1), ways.all);
        Due.is("fit 2 of " + name, x.fit(line, 0, 2), ways.cheapest);
        Due.is("fit 3 of " + name, x.fit(line, 0, 3), ways.isLaid() ? ways.bestFree() : NONE);
        Due.is("fit 4 of " + name, x.fit(line, 0, 4), ways.isLaid() ? ways.bestHurting() : NONE);
        for (int syllable = 0; syllable < SHORT_LINES[line].length(); syllable++) {
            Due.is("lies 0 of " + name, x.lies(line, 0, syllable, 0), ways.isLaid() ? ways.bestFirsts[syllable] : NONE);
            Due.is("lies 1 of " + name, x.lies(line, 0, syllable, 1), ways.isLaid() ? ways.bestLengths[syllable] : NONE);
        }
    }

    private static void whole(String when, BurdenTunes x, int... want) {
        for (int what = 0; what < 4; what++) {
            Due.is("whole(" + what + ") " + when, x.whole(what), want[what]);
        }
    }

    private static void sing(BurdenTunes x, int... lines) {
        x.clear(false);
        for (int line : lines) {
            x.sing(line);
        }
    }

    private static void promise20Whole() {
        // Xx costs 0 on sw and 14 on ws., xX the other way round; xxx can be laid on neither.
        BurdenTunes x = Due.with("Xx;xX;xxx;|sw;|ws.");
        x.play(0);
        x.play(1);
        whole("of no lines", x, 0, 0, NONE, 0);
        sing(x, 0, 0, 1, 1, 2, 1, 0);
        whole("of seven lines", x, 28, 1, 1, 17);
        sing(x, 2, 2, 2);
        whole("of lines that cannot be laid", x, 0, 3, NONE, 7);
        sing(x, 2, 1, 0, 2, 0);
        whole("where nothing costs", x, 0, 2, 1, 12);
        sing(x, 0, 1, 1, 0);
        whole("with two greatest costs", x, 28, 0, 2, 10);
        x.play(1);
        whole("on three phrases", x, 0, 0, 0, 10);
        sing(x, 0, 0, 0, 0, 0, 1);
        whole("on three phrases", x, 42, 0, 1, 16);
        x.clear(true);
        x.play(1);
        whole("on one phrase", x, 70, 0, 0, 18);
        x.set(BurdenTunes.HURT, 0);
        whole("without hurt", x, 0, 0, 0, 18);
        BurdenTunes y = with(new int[] {8, 9, 9, 20}, "XXXXXXXXXXXXXXXX;|" + "w".repeat(24));
        y.play(0);
        for (int i = 0; i < 40; i++) {
            y.sing(0);
        }
        whole("of the greatest ballad", y, 40 * (16 * 20 + 8 * 9), 0, 0, 960);
    }

    private static void promise20WholeWrong() {
        BurdenTunes x = Due.with("x;|w");
        for (int what : new int[] {-1, 4, MIN, MAX}) {
            Due.is("whole(" + what + ") without a tune", x.whole(what), BAD_VALUE);
        }
        for (int what = 0; what < 4; what++) {
            Due.is("whole(" + what + ") without a tune", x.whole(what), NOT_POSSIBLE);
        }
        x.sing(0);
        Due.is("whole(2) without a tune", x.whole(2), NOT_POSSIBLE);
        x.play(0);
        Due.is("whole(2)", x.whole(2), 0);
        for (int what : new int[] {-1, 4, MIN, MAX}) {
            Due.is("whole(" + what + ")", x.whole(what), BAD_VALUE);
        }
        x.dropPhrase(0);
        Due.is("whole(0) after the phrase is dropped", x.whole(0), NOT_POSSIBLE);
    }

    private static void promise21BestPhrase() {
        BurdenTunes none = Due.with("x");
        none.sing(0);
        Due.is("bestPhrase() without phrases", none.bestPhrase(), NONE);
        // The costs on sw, ws. and sww: Xx 0, 14, 1; xX 14, 0, 10; xxx not, not, 7.
        BurdenTunes x = Due.with("Xx;xX;xxx", "|sw;|ws.;|sww");
        Due.is("bestPhrase() of no lines", x.bestPhrase(), 0);
        int[][] ballads = {{0}, {1}, {2}, {2, 0, 1}, {0, 1}, {0, 1, 1}, {0, 0, 0, 0, 0, 2}, {1, 1, 1, 1, 1, 2}};
        int[] want = {0, 1, 2, 2, 2, 1, 2, 2};
        for (int i = 0; i < ballads.length; i++) {
            sing(x, ballads[i]);
            Due.is("bestPhrase() of ballad " + i, x.bestPhrase(), want[i]);
        }
        sing(x, 0, 1);
        x.play(0);
        Due.is("bestPhrase(): the tune does not matter", x.bestPhrase(), 2);
        x.dropPhrase(2);
        Due.is("bestPhrase() with the same costs", x.bestPhrase(), 0);
        sing(x, 2, 2);
        Due.is("bestPhrase() for lines that cannot be laid", x.bestPhrase(), 0);
        sing(x, 2, 1);
        Due.is("bestPhrase() with the same lines that cannot be laid", x.bestPhrase(), 1);
        BurdenTunes y = Due.with("xx;x", "|.;|s;|ssss;|w");
        sing(y, 0, 1, 1, 1);
        Due.is("bestPhrase(): fewest lines first, however dear", y.bestPhrase(), 2);
        sing(y, 1, 1);
        Due.is("bestPhrase() then", y.bestPhrase(), 3);
        sing(y, 0, 1);
        y.dropPhrase(2);
        Due.is("bestPhrase(): s and w lose one line", y.bestPhrase(), 2);
    }

    private static void change(int[] settings, String text, int syllable, int cost) {
        BurdenTunes x = with(settings, text);
        Due.is("bestChange(0, 0, 0) of " + text, x.bestChange(0, 0, 0), syllable);
        Due.is("bestChange(0, 0, 1) of " + text, x.bestChange(0, 0, 1), cost);
    }

    private static void promise22BestChange() {
        int[] first = {3, 1, 3, 7};
        change(first, "XX;|ws", 0, 0);
        change(first, "XX;|sw", 1, 0);
        change(first, "xX;|ws", 0, 7);
        change(first, "x;|w", 0, 7);
        change(first, "X;|w", 0, 0);
        change(first, "XXX;|sws", 1, 0);
        change(first, "xxxx;|swsw", 0, 7);
        change(first, "Xxxx;|swsw", 2, 0);
        change(first, "Xxxx;|sww", NONE, NONE);
        change(first, "x;|..", NONE, NONE);
        change(new int[] {3, 1, 3, 0}, "xXx;|wwww", 0, 1);
        // x on the weak beat costs 3, X drawn over both costs 1.
        change(first, "x;|sw", 0, 1);
        change(new int[] {3, 1, 3, 20}, "xxxxxxxxxxxxxxxx;|wwwwwwwwwwwwwwws", 15, 0);
    }

    private static void promise22BestChangeWrong() {
        BurdenTunes x = Due.with("x;xxx;XX", "|w;|.;|ss");
        for (int number : OUTSIDE) {
            for (int what = -1; what <= 2; what++) {
                Due.is("bestChange(" + number + ", 0, " + what + ")", x.bestChange(number, 0, what), NO_SUCH);
                Due.is("bestChange(0, " + number + ", " + what + ")", x.bestChange(0, number, what), NO_SUCH);
            }
        }
        for (int what : new int[] {-1, 2, MIN, MAX}) {
            Due.is("bestChange(0, 0, " + what + ")", x.bestChange(0, 0, what), BAD_VALUE);
            Due.is("bestChange(1, 1, " + what + ")", x.bestChange(1, 1, what), BAD_VALUE);
        }
        Due.lines("after bestChange", x, "x", "xxx", "XX");
    }

    private static void promise23EnoughBreath() {
        BurdenTunes x = Due.with("X;Xx;xxx", "|swww;|swwwwwwww;|.w.s");
        Due.is("enoughBreath(0, 0)", x.enoughBreath(0, 0), 4);
        Due.is("enoughBreath(1, 0)", x.enoughBreath(1, 0), 2);
        Due.is("enoughBreath(2, 0)", x.enoughBreath(2, 0), 1);
        Due.is("enoughBreath(0, 1)", x.enoughBreath(0, 1), 8);
        Due.is("enoughBreath(1, 1)", x.enoughBreath(1, 1), 5);
        Due.is("enoughBreath(0, 2)", x.enoughBreath(0, 2), 1);
        Due.is("enoughBreath(2, 2)", x.enoughBreath(2, 2), NONE);
        x.set(BurdenTunes.BREATH, 1);
        Due.is("enoughBreath(0, 0) with BREATH 1", x.enoughBreath(0, 0), 4);
        Due.is("BREATH then", x.count(5), 1);
        Due.is("fit(0, 0, 0) then", x.fit(0, 0, 0), 9);
        x.set(BurdenTunes.DRAWN, 3);
        Due.is("enoughBreath(0, 0) where nothing is won", x.enoughBreath(0, 0), 1);
        x.set(BurdenTunes.DRAWN, 2);
        Due.is("enoughBreath(0, 0)", x.enoughBreath(0, 0), 4);
        x.set(BurdenTunes.LOST, 0);
        Due.is("enoughBreath(0, 1) where free beats cost nothing", x.enoughBreath(0, 1), 1);
        x.beat(0, 2, 0);
        x.set(BurdenTunes.LOST, 9);
        Due.is("enoughBreath(0, 0) before a rest", x.enoughBreath(0, 0), 2);
        for (int number : OUTSIDE) {
            Due.is("enoughBreath(" + number + ", 0)", x.enoughBreath(number, 0), NO_SUCH);
            Due.is("enoughBreath(0, " + number + ")", x.enoughBreath(0, number), NO_SUCH);
            Due.is("enoughBreath(2, " + number + ")", x.enoughBreath(2, number), NO_SUCH);
        }
    }

    private static void promises22And23AgainstAllWays() {
        String lines = String.join(";", SHORT_LINES);
        for (String phrase : shortPhrases()) {
            for (int[] settings : new int[][] {{3, 1, 3, 7}, {1, 2, 9, 5}, {8, 4, 4, 4}}) {
                BurdenTunes x = with(settings, lines + ";|" + phrase);
                for (int line = 0; line < SHORT_LINES.length; line++) {
                    changeAgainstAllWays(x, line, phrase, settings);
                    breathAgainstAllWays(x, line, phrase, settings);
                }
            }
        }
    }

    private static void changeAgainstAllWays(BurdenTunes x, int line, String phrase, int[] settings) {
        int best = NONE;
        int cost = NONE;
        for (int syllable = 0; syllable < SHORT_LINES[line].length(); syllable++) {
            StringBuilder other = new StringBuilder(SHORT_LINES[line]);
            other.setCharAt(syllable, other.charAt(syllable) == 'x' ? 'X' : 'x');
            Ways ways = new Ways(other.toString(), phrase, settings);
            if (ways.isLaid() && (best == NONE || ways.leastCost < cost)) {
                best = syllable;
                cost = ways.leastCost;
            }
        }
        Due.is("bestChange 0 of " + SHORT_LINES[line] + " on " + phrase, x.bestChange(line, 0, 0), best);
        Due.is("bestChange 1 of " + SHORT_LINES[line] + " on " + phrase, x.bestChange(line, 0, 1), cost);
    }

    private static void breathAgainstAllWays(BurdenTunes x, int line, String phrase, int[] settings) {
        int enough = NONE;
        int cost = 0;
        for (int breath = 1; breath <= 8; breath++) {
            Ways ways = new Ways(SHORT_LINES[line], phrase, breath, settings[1], settings[2], settings[3]);
            if (ways.isLaid() && (enough == NONE || ways.leastCost < cost)) {
                enough = breath;
                cost = ways.leastCost;
            }
        }
        Due.is("enoughBreath of " + SHORT_LINES[line] + " on " + phrase, x.enoughBreath(line, 0), enough);
    }
}
