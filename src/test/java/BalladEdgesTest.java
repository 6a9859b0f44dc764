/** "Lines, phrases", "Ballad, tune" and promises 4 to 6 and 11 to 21 at their edges. */
public final class BalladEdgesTest {
    private static final int NO_SUCH = BurdenTunes.NO_SUCH, NONE = BurdenTunes.NONE, NOT_POSSIBLE = BurdenTunes.NOT_POSSIBLE;
    private static final String[] SIXTEEN = {"x", "X", "xx", "xX", "Xx", "XX", "xxx", "xxX", "xXx", "xXX", "Xxx", "XxX", "XXx",
        "XXX", "xxxx", "xxxX"};
    private static final String[] EIGHT = {"s", "w", ".", "ss", "sw", "s.", "ws", "ww"};

    public static void main(String[] args) {
        linesBehindADroppedOneMoveUp();
        phrasesBehindADroppedOneMoveUp();
        allOfALineMovesUp();
        allOfAPhraseMovesUp();
        allPlacesOfADroppedLineGo();
        allPlacesOfADroppedPhraseGo();
        greaterNumbersBecomeLess();
        droppingAllLinesAndPhrases();
        whereAnotherWasDropped();
        stressOfEachSyllable();
        beatOfEachKind();
        aBurdenIsThereTwiceOrMore();
        upTo16Burdens();
        linesThatAreAlikeAreNotTheSame();
        clearOfTheEmptyAndOfTheFull();
        theLeastCostPhraseOfALine();
        theLongestRowOfBeats();
        placesOfTheEmptyAndOfTheFull();
        theNumberLeftOver();
        wholeOfAnEmptyBallad();
        wholeOfLinesThatCannotBeLaid();
        theFirstOfTheGreatestCosts();
        wholeOfTheGreatest();
        bestPhraseOfAnEmptyBallad();
        bestPhraseCountsLinesBeforeCosts();
        bestPhraseOfSeveralTheLowest();
        bestPhraseCountsALineAsOftenAsItIsThere();
        bestPhraseLooksAtTheLastOf16Lines();
        Due.end();
    }

    /** 16 lines and 8 phrases, each one unlike the others. */
    private static BurdenTunes full() {
        return Due.with(String.join(";", SIXTEEN), "|" + String.join(";|", EIGHT));
    }

    private static String[] without(String[] all, int number) {
        String[] others = new String[all.length - 1];
        System.arraycopy(all, 0, others, 0, number);
        System.arraycopy(all, number + 1, others, number, others.length - number);
        return others;
    }

    private static void sing(BurdenTunes x, int... lines) {
        x.clear(false);
        for (int line : lines) {
            x.sing(line);
        }
    }

    private static void play(BurdenTunes x, int... phrases) {
        x.clear(true);
        for (int phrase : phrases) {
            x.play(phrase);
        }
    }

    /** "When one is dropped, those behind it move up": the first, each one between, and the last of 16. */
    private static void linesBehindADroppedOneMoveUp() {
        for (int line = 0; line < 16; line++) {
            BurdenTunes x = full();
            Due.is("dropLine(" + line + ") of 16", x.dropLine(line), 0);
            Due.lines("after dropLine(" + line + ")", x, without(SIXTEEN, line));
            Due.is("line(15, 0) of 15", x.line(15, 0), NO_SUCH);
            Due.is("dropLine(15) of 15", x.dropLine(15), NO_SUCH);
            Due.phrases("after dropLine(" + line + ")", x, EIGHT);
        }
        BurdenTunes one = Due.with("xX");
        Due.is("dropLine(0) of 1", one.dropLine(0), 0);
        Due.lines("after the only one is dropped", one);
        Due.is("dropLine(0) of 0", one.dropLine(0), NO_SUCH);
    }

    /** "There are up to 8 phrases, numbered likewise." */
    private static void phrasesBehindADroppedOneMoveUp() {
        for (int phrase = 0; phrase < 8; phrase++) {
            BurdenTunes x = full();
            Due.is("dropPhrase(" + phrase + ") of 8", x.dropPhrase(phrase), 0);
            Due.phrases("after dropPhrase(" + phrase + ")", x, without(EIGHT, phrase));
            Due.is("phrase(7, 0) of 7", x.phrase(7, 0), NO_SUCH);
            Due.is("dropPhrase(7) of 7", x.dropPhrase(7), NO_SUCH);
            Due.is("lines after dropPhrase(" + phrase + ")", x.count(0), 16);
        }
        BurdenTunes one = Due.with("|sw");
        Due.is("dropPhrase(0) of 1", one.dropPhrase(0), 0);
        Due.phrases("after the only one is dropped", one);
        Due.is("dropPhrase(0) of 0", one.dropPhrase(0), NO_SUCH);
    }

    /** The lines with the most syllables, of which each one is put to another use. */
    private static void allOfALineMovesUp() {
        String odd = "XxXXxxXxxxXXXxxX";
        String even = "xXxxXXxXXXxxxXXx";
        BurdenTunes x = Due.with("x;" + odd + ";" + even);
        x.dropLine(0);
        Due.lines("after dropLine(0)", x, odd, even);
        x.dropLine(0);
        Due.lines("after dropLine(0) again", x, even);
        Due.write(x, odd);
        Due.lines("after another write", x, even, odd);
    }

    private static void allOfAPhraseMovesUp() {
        String first = "swws.swwwsw..sswwswsw.sw";
        String second = "..wsw.sswwsws.wws.swwww.";
        BurdenTunes x = Due.with("|.;|" + first + ";|" + second);
        x.dropPhrase(0);
        Due.phrases("after dropPhrase(0)", x, first, second);
        x.dropPhrase(0);
        Due.phrases("after dropPhrase(0) again", x, second);
        Due.write(x, "|" + first);
        Due.phrases("after another write", x, second, first);
    }

    /** "When a line is dropped, all of its places in the ballad go." */
    private static void allPlacesOfADroppedLineGo() {
        BurdenTunes x = Due.with("x;X;xx");
        sing(x, 1, 1, 0, 1, 2, 1, 1);
        Due.is("dropLine(1)", x.dropLine(1), 2);
        Due.ballad("without its first, its last and its repeated places", x, 0, 1);
        BurdenTunes y = Due.with("x;X");
        for (int i = 0; i < 40; i++) {
            y.sing(1);
        }
        Due.is("dropLine(0) that is not in the ballad", y.dropLine(0), 40);
        Due.is("at(false, 39)", y.at(false, 39), 0);
        Due.is("dropLine(0) that is the whole ballad", y.dropLine(0), 0);
        Due.ballad("then", y);
        BurdenTunes z = Due.with("x;X");
        for (int i = 0; i < 40; i++) {
            z.sing(i % 2);
        }
        Due.is("dropLine(1) that is half the ballad", z.dropLine(1), 20);
        Due.is("line(0, 2) then", z.line(0, 2), 20);
        Due.is("at(false, 19)", z.at(false, 19), 0);
        Due.is("at(false, 20)", z.at(false, 20), NO_SUCH);
        Due.is("sing(0) then", z.sing(0), 21);
    }

    /** "A dropped phrase likewise goes from the tune." */
    private static void allPlacesOfADroppedPhraseGo() {
        BurdenTunes x = Due.with("|s;|w;|.", "x");
        play(x, 1, 1, 0, 1, 2, 1, 1);
        x.sing(0);
        Due.is("dropPhrase(1)", x.dropPhrase(1), 2);
        Due.tune("without its first, its last and its repeated places", x, 0, 1);
        Due.ballad("after dropPhrase(1)", x, 0);
        play(x, 1, 1, 1, 1, 1, 1, 1, 1);
        Due.is("dropPhrase(0) that is not in the tune", x.dropPhrase(0), 8);
        Due.tune("then", x, 0, 0, 0, 0, 0, 0, 0, 0);
        Due.is("whole(3) then", x.whole(3), 1);
        Due.is("dropPhrase(0) that is the whole tune", x.dropPhrase(0), 0);
        Due.tune("then", x);
        Due.is("whole(3) then", x.whole(3), NOT_POSSIBLE);
    }

    /** "And greater numbers become less by 1": the number above the dropped one and the greatest; the lesser ones stay. */
    private static void greaterNumbersBecomeLess() {
        for (int dropped = 0; dropped < 16; dropped++) {
            BurdenTunes x = full();
            x.verse(0, 15, dropped);
            Due.is("dropLine(" + dropped + ")", x.dropLine(dropped), 15);
            for (int place = 0; place < 15; place++) {
                Due.is("place " + place + " after dropLine(" + dropped + ")", x.at(false, place), place);
            }
            Due.is("place 15", x.at(false, 15), NO_SUCH);
        }
        for (int dropped = 0; dropped < 8; dropped++) {
            BurdenTunes x = full();
            play(x, 7, 6, 5, 4, 3, 2, 1, 0);
            Due.is("dropPhrase(" + dropped + ")", x.dropPhrase(dropped), 7);
            Due.tune("after dropPhrase(" + dropped + ")", x, 6, 5, 4, 3, 2, 1, 0);
        }
    }

    private static void droppingAllLinesAndPhrases() {
        BurdenTunes x = full();
        x.verse(0, 15, 7);
        play(x, 0, 1, 2, 3, 4, 5, 6, 7);
        for (int line = 15; line >= 0; line--) {
            Due.is("dropLine(" + line + ")", x.dropLine(line), line > 7 ? 16 + line : line);
        }
        Due.lines("after all lines are dropped", x);
        Due.ballad("after all lines are dropped", x);
        Due.phrases("after all lines are dropped", x, EIGHT);
        for (int left = 7; left >= 0; left--) {
            Due.is("dropPhrase(0), " + left + " left", x.dropPhrase(0), left);
        }
        Due.phrases("after all phrases are dropped", x);
        Due.tune("after all phrases are dropped", x);
        Due.is("dropLine(0)", x.dropLine(0), NO_SUCH);
        Due.is("dropPhrase(0)", x.dropPhrase(0), NO_SUCH);
        Due.is("bestPhrase()", x.bestPhrase(), NONE);
        Due.write(x, "xX;|ws");
        Due.is("fit(0, 0, 0) after all", x.fit(0, 0, 0), 0);
        Due.is("the settings stay", x.count(5) * 1000 + x.count(6) * 100 + x.count(7) * 10 + x.count(8), 3137);
    }

    /** A line and a phrase that are shorter than what stood in their place have nothing of it. */
    private static void whereAnotherWasDropped() {
        BurdenTunes x = Due.with("XXXXXXXXXXXXXXXX;|ssssssssssssssssssssssss");
        x.dropLine(0);
        x.dropPhrase(0);
        Due.write(x, "x;|w");
        Due.is("line(0, 1)", x.line(0, 1), 0);
        Due.is("isStressed(0, 1)", x.isStressed(0, 1), NO_SUCH);
        Due.is("kindOf(0, 1)", x.kindOf(0, 1), NO_SUCH);
        Due.is("phrase(0, 5)", x.phrase(0, 5), 1);
        Due.is("fit(0, 0, 0)", x.fit(0, 0, 0), 0);
        Due.is("fit(0, 0, 3)", x.fit(0, 0, 3), 0);
        Due.is("enoughBreath(0, 0)", x.enoughBreath(0, 0), 1);
        x.undo();
        x.undo();
        x.undo();
        Due.is("fit(0, 0, 1) of what is back", x.fit(0, 0, 1), 1000000);
        Due.is("fit(0, 0, 4) of what is back", x.fit(0, 0, 4), 0);
    }

    /** Promise 6: "1 if it was stressed, otherwise 0", for each syllable of 16, and of no other line. */
    private static void stressOfEachSyllable() {
        String none = "x".repeat(16);
        for (int syllable = 0; syllable < 16; syllable++) {
            BurdenTunes x = Due.with(none + ";" + none + ";" + none);
            Due.is("stress(1, " + syllable + ", true)", x.stress(1, syllable, true), 0);
            Due.is("stress(1, " + syllable + ", true) again", x.stress(1, syllable, true), 1);
            Due.lines("after stress", x, none, none.substring(0, syllable) + "X" + none.substring(syllable + 1), none);
            Due.is("stress(1, " + syllable + ", false)", x.stress(1, syllable, false), 1);
            Due.is("stress(1, " + syllable + ", false) again", x.stress(1, syllable, false), 0);
            Due.is("line(1, 1)", x.line(1, 1), 0);
        }
    }

    /** Promise 7: "the previous kind", for each beat of 24, and of no other phrase. */
    private static void beatOfEachKind() {
        String weak = "w".repeat(24);
        for (int beat = 0; beat < 24; beat++) {
            BurdenTunes x = Due.with("|" + weak + ";|" + weak, "|" + weak);
            Due.is("beat(1, " + beat + ", 2)", x.beat(1, beat, 2), 1);
            Due.is("beat(1, " + beat + ", 0)", x.beat(1, beat, 0), 2);
            Due.phrases("after beat", x, weak, weak.substring(0, beat) + "." + weak.substring(beat + 1), weak);
            Due.is("phrase(1, 5)", x.phrase(1, 5), Math.max(beat, 23 - beat));
            Due.is("beat(1, " + beat + ", 1)", x.beat(1, beat, 1), 0);
            Due.is("phrase(1, 5)", x.phrase(1, 5), 24);
        }
    }

    /** "A burden is a line that is there twice or more": not once, and not in the tune or the book. */
    private static void aBurdenIsThereTwiceOrMore() {
        BurdenTunes x = Due.with("x;X;|s");
        for (int times = 0; times <= 40; times++) {
            Due.is("line(1, 2) with " + times, x.line(1, 2), times);
            Due.is("line(1, 3) with " + times, x.line(1, 3), times >= 2 ? 1 : 0);
            Due.is("count(4) with " + times, x.count(4), times >= 2 ? 1 : 0);
            Due.is("line(0, 3) with " + times, x.line(0, 3), 0);
            x.sing(1);
        }
        Due.is("line(1, 2) when full", x.line(1, 2), 40);
        BurdenTunes y = Due.with("x;X;|s;|w");
        sing(y, 0, 1, 0);
        play(y, 1, 1);
        Due.is("line(0, 3) of two with one between", y.line(0, 3), 1);
        Due.is("line(1, 3) of a line that is there once", y.line(1, 3), 0);
        Due.is("phrase(1, 4)", y.phrase(1, 4), 2);
        Due.is("phrase(0, 4)", y.phrase(0, 4), 0);
        y.undo();
        y.undo();
        y.undo();
        y.undo();
        Due.is("line(0, 3) after undo", y.line(0, 3), 0);
    }

    /** "4 burdens: unlike lines that are in the ballad twice or more": from none to all 16. */
    private static void upTo16Burdens() {
        BurdenTunes x = full();
        for (int line = 0; line < 16; line++) {
            x.sing(line);
        }
        Due.is("count(4) of 16 lines, each there once", x.count(4), 0);
        for (int line = 15; line >= 0; line--) {
            x.sing(line);
            Due.is("count(4) with " + (16 - line), x.count(4), 16 - line);
        }
        for (int line = 0; line < 8; line++) {
            x.sing(line);
            Due.is("count(4) where some are there three times", x.count(4), 16);
        }
        Due.is("dropLine(0)", x.dropLine(0), 37);
        Due.is("count(4) after dropLine", x.count(4), 15);
    }

    private static void linesThatAreAlikeAreNotTheSame() {
        BurdenTunes x = Due.with("xX;xX;xX");
        sing(x, 0, 1, 2);
        Due.is("count(4) of three lines that are alike", x.count(4), 0);
        Due.is("line(0, 2)", x.line(0, 2), 1);
        Due.is("line(0, 3)", x.line(0, 3), 0);
        x.sing(1);
        Due.is("count(4)", x.count(4), 1);
        Due.is("line(1, 3)", x.line(1, 3), 1);
        Due.is("line(2, 3)", x.line(2, 3), 0);
    }

    /** Promise 11: "returns how many it had", from none to 40 lines, and to 8 phrases. */
    private static void clearOfTheEmptyAndOfTheFull() {
        BurdenTunes x = Due.with("x;|s");
        for (int length = 0; length <= 8; length++) {
            for (int i = 0; i < length; i++) {
                x.play(0);
            }
            Due.is("clear(false) beside " + length, x.clear(false), 0);
            Due.is("clear(true) of " + length, x.clear(true), length);
            Due.is("clear(true) again", x.clear(true), 0);
        }
        for (int length : new int[] {0, 1, 2, 39, 40}) {
            x.play(0);
            for (int i = 0; i < length; i++) {
                x.sing(0);
            }
            Due.is("clear(false) of " + length, x.clear(false), length);
            Due.is("clear(false) again", x.clear(false), 0);
            Due.is("clear(true) beside it", x.clear(true), 1);
        }
        Due.lines("then", x, "x");
        Due.phrases("then", x, "s");
    }

    /** "4 the phrase on which it could be laid with the least cost, of several the lowest (NONE)." */
    private static void theLeastCostPhraseOfALine() {
        BurdenTunes x = Due.with("xX;xxxxxxxxx", "|.;|w;|ww;|wws;|ss;|w.s;|ws;|.ws");
        Due.is("line(0, 4), the lowest of three", x.line(0, 4), 5);
        Due.is("line(1, 4) that cannot be laid", x.line(1, 4), NONE);
        x.beat(5, 2, 1);
        Due.is("line(0, 4), the lowest of two", x.line(0, 4), 6);
        x.beat(6, 1, 1);
        Due.is("line(0, 4), the last", x.line(0, 4), 7);
        x.beat(7, 2, 0);
        Due.is("line(0, 4) with a cost of 1", x.line(0, 4), 3);
        x.beat(3, 2, 0);
        Due.is("line(0, 4) with a cost of 7, the lowest of four", x.line(0, 4), 2);
        for (int phrase = 2; phrase <= 7; phrase++) {
            x.beat(phrase, 0, 0);
            x.beat(phrase, 1, 0);
        }
        Due.is("line(0, 4) where there is no more room", x.line(0, 4), NONE);
        BurdenTunes y = Due.with("X;|w;|s");
        Due.is("line(0, 4) that is not in the tune", y.line(0, 4), 1);
        y.play(0);
        Due.is("line(0, 4) that is not in the tune", y.line(0, 4), 1);
        y.set(BurdenTunes.HURT, 0);
        Due.is("line(0, 4) of the same cost", y.line(0, 4), 0);
    }

    /** "5 the longest row of beats without a rest": at the front, between, at the end, none, and the first of two. */
    private static void theLongestRowOfBeats() {
        String[] phrases = {"sws.s.w", "s.sws.w", "s.w.sws", "...", "s", "sw.sw", ".", "swsw....sws", "....s"};
        int[] want = {3, 3, 3, 0, 1, 2, 0, 4, 1};
        for (int i = 0; i < phrases.length; i++) {
            BurdenTunes x = Due.with("|" + phrases[i]);
            Due.is("phrase(0, 5) of " + phrases[i], x.phrase(0, 5), want[i]);
        }
        for (int rest = 0; rest < 24; rest++) {
            BurdenTunes x = Due.with("|" + "s".repeat(rest) + "." + "w".repeat(23 - rest));
            int[] counts = {24, rest, 23 - rest, 1, 0, Math.max(rest, 23 - rest)};
            for (int what = 0; what < 6; what++) {
                Due.is("phrase(0, " + what + ") with a rest at " + rest, x.phrase(0, what), counts[what]);
            }
        }
    }

    /** Promise 17: "NO_SUCH if there is none at this place." */
    private static void placesOfTheEmptyAndOfTheFull() {
        BurdenTunes x = full();
        for (boolean isTune : new boolean[] {false, true}) {
            int most = isTune ? 8 : 40;
            for (int length = 0; length <= most; length++) {
                Due.is("the place behind " + length, x.at(isTune, length), NO_SUCH);
                Due.is("the place before the first", x.at(isTune, -1), NO_SUCH);
                int number = length % 8;
                int after = length == most ? 0 : isTune ? x.play(number) : x.sing(number);
                Due.is("the length then", after, length == most ? 0 : length + 1);
                Due.is("the last place", x.at(isTune, length), length == most ? NO_SUCH : number);
            }
        }
        Due.is("at(true, 8) where the ballad has a line", x.at(true, 8), NO_SUCH);
        x.clear(false);
        Due.is("at(false, 0) of a ballad that was cleared", x.at(false, 0), NO_SUCH);
        Due.is("at(true, 0) of the tune", x.at(true, 0), 0);
    }

    /** "The phrase of the tune with the number k left over by the number of phrases in the tune": for each number of phrases. */
    private static void theNumberLeftOver() {
        for (int phrases = 1; phrases <= 8; phrases++) {
            BurdenTunes x = Due.with("x", "|w;|ww;|www;|wwww;|wwwww;|wwwwww", "|wwwwwww;|wwwwwwww");
            x.set(BurdenTunes.BREATH, 1);
            x.set(BurdenTunes.LOST, 1);
            for (int phrase = phrases - 1; phrase >= 0; phrase--) {
                x.play(phrase);
            }
            int beats = 0;
            for (int k = 0; k < 40; k++) {
                beats += phrases - k % phrases;
                x.sing(0);
                Due.is("the beats of " + (k + 1) + " lines on " + phrases, x.whole(3), beats);
                Due.is("the cost of " + (k + 1) + " lines on " + phrases, x.whole(0), beats - (k + 1));
            }
            Due.is("the dearest place on " + phrases, x.whole(2), 0);
        }
    }

    /** Promise 20 with nothing to lay. */
    private static void wholeOfAnEmptyBallad() {
        BurdenTunes x = Due.with("x;|w;|s");
        for (int what = 0; what <= 3; what++) {
            Due.is("whole(" + what + ") without a tune", x.whole(what), NOT_POSSIBLE);
        }
        x.play(1);
        int[] want = {0, 0, NONE, 0};
        for (int what = 0; what <= 3; what++) {
            Due.is("whole(" + what + ") without a ballad", x.whole(what), want[what]);
        }
        x.dropPhrase(0);
        Due.is("whole(0) on a tune that was renumbered", x.whole(0), 0);
        x.clear(true);
        Due.is("whole(0) of a tune that was cleared", x.whole(0), NOT_POSSIBLE);
        x.undo();
        Due.is("whole(0) after undo", x.whole(0), 0);
    }

    /** "1 how many lines of the ballad cannot be laid": each place counts; their beats count, their costs do not. */
    private static void wholeOfLinesThatCannotBeLaid() {
        BurdenTunes x = Due.with("xx;X;|w;|.");
        play(x, 0);
        sing(x, 0, 0, 0);
        whole("of lines that cannot be laid", x, 0, 3, NONE, 3);
        sing(x, 0, 1, 0, 1);
        whole("of lines by turns", x, 14, 2, 1, 4);
        play(x, 1);
        whole("on rests", x, 0, 4, NONE, 4);
        play(x, 0, 1);
        whole("on rests at every other line", x, 0, 4, NONE, 4);
        play(x, 1, 0);
        whole("on rests at every first line", x, 14, 2, 1, 4);
        for (int i = 0; i < 36; i++) {
            x.sing(0);
        }
        whole("of 40", x, 14, 38, 1, 40);
    }

    private static void whole(String when, BurdenTunes x, int... want) {
        for (int what = 0; what < 4; what++) {
            Due.is("whole(" + what + ") " + when, x.whole(what), want[what]);
        }
    }

    /** "2 the place of the first line with the greatest least cost (NONE)." */
    private static void theFirstOfTheGreatestCosts() {
        BurdenTunes x = Due.with("x;X;xx;XX;xxx;|ww");
        play(x, 0);
        x.set(BurdenTunes.BREATH, 1);
        int[][] ballads = {{2}, {2, 2}, {4, 2}, {2, 0}, {0, 2, 0}, {0, 1, 1}, {1, 3}, {3, 1, 3}, {1, 3, 3, 1}, {4, 4}, {4, 0}, {0, 0}};
        int[] want = {0, 0, 1, 1, 0, 1, 1, 0, 1, NONE, 1, 0};
        for (int i = 0; i < ballads.length; i++) {
            sing(x, ballads[i]);
            Due.is("whole(2) of ballad " + i, x.whole(2), want[i]);
        }
        sing(x);
        for (int i = 0; i < 39; i++) {
            x.sing(2);
        }
        x.sing(0);
        Due.is("whole(2), the last of 40", x.whole(2), 39);
        x.undo();
        x.sing(2);
        Due.is("whole(2) where nothing costs", x.whole(2), 0);
    }

    /** 40 lines of 16 syllables on phrases of 24 beats, at the greatest settings. */
    private static void wholeOfTheGreatest() {
        BurdenTunes x = Due.with("X".repeat(16) + ";|" + "w".repeat(24));
        x.set(BurdenTunes.BREATH, 1);
        x.set(BurdenTunes.DRAWN, 9);
        x.set(BurdenTunes.LOST, 9);
        x.set(BurdenTunes.HURT, 20);
        x.play(0);
        for (int i = 0; i < 40; i++) {
            x.sing(0);
        }
        whole("of the greatest", x, 40 * 392, 0, 0, 960);
        Due.is("bestPhrase()", x.bestPhrase(), 0);
    }

    /** Promise 21: with an empty ballad all phrases are alike; "NONE if there are no phrases". */
    private static void bestPhraseOfAnEmptyBallad() {
        BurdenTunes x = Due.with("|.;|s;|w");
        Due.is("bestPhrase() without lines", x.bestPhrase(), 0);
        Due.write(x, "x");
        Due.is("bestPhrase() without a ballad", x.bestPhrase(), 0);
        x.sing(0);
        Due.is("bestPhrase()", x.bestPhrase(), 2);
        for (int left = 2; left >= 1; left--) {
            x.dropPhrase(left);
            Due.is("bestPhrase() of " + left, x.bestPhrase(), left - 1);
        }
        x.dropPhrase(0);
        Due.is("bestPhrase() without phrases", x.bestPhrase(), NONE);
    }

    /** "The fewest lines that cannot be laid .. of several the one with the least sum of costs." */
    private static void bestPhraseCountsLinesBeforeCosts() {
        BurdenTunes x = Due.with("x;xx;|w;|sss;|ss");
        x.set(BurdenTunes.HURT, 20);
        sing(x, 0);
        Due.is("bestPhrase() of x", x.bestPhrase(), 0);
        sing(x, 0, 0, 0, 1);
        Due.is("bestPhrase() of x, x, x and xx", x.bestPhrase(), 2);
        x.dropPhrase(2);
        Due.is("bestPhrase() then", x.bestPhrase(), 1);
        x.dropPhrase(1);
        Due.is("bestPhrase() then", x.bestPhrase(), 0);
    }

    /** "Of these the lowest": among 8, the first, and the last if it alone is the best. */
    private static void bestPhraseOfSeveralTheLowest() {
        BurdenTunes x = Due.with("x", "|w;|w;|w;|w;|w;|w;|w;|w");
        sing(x, 0, 0);
        for (int phrase = 0; phrase < 8; phrase++) {
            Due.is("bestPhrase() of phrases from " + phrase + " on", x.bestPhrase(), phrase);
            x.beat(phrase, 0, phrase % 2 == 0 ? 2 : 0);
        }
        Due.is("bestPhrase() where all hurt or rest", x.bestPhrase(), 0);
        for (int phrase = 0; phrase < 8; phrase++) {
            x.beat(phrase, 0, 0);
        }
        Due.is("bestPhrase() of rests", x.bestPhrase(), 0);
    }

    private static void bestPhraseCountsALineAsOftenAsItIsThere() {
        // xx can be laid on wsw alone.
        BurdenTunes x = Due.with("xx;X;|w;|wsw;|s");
        sing(x, 1, 1, 1);
        Due.is("bestPhrase() of X", x.bestPhrase(), 2);
        sing(x, 1, 1, 1, 0);
        Due.is("bestPhrase() with xx", x.bestPhrase(), 1);
        BurdenTunes y = Due.with("x;X;|w;|s");
        sing(y, 0, 1);
        Due.is("bestPhrase() of x and X", y.bestPhrase(), 0);
        sing(y, 0, 1, 1);
        Due.is("bestPhrase() of x, X, X", y.bestPhrase(), 1);
        sing(y, 0, 0, 1);
        Due.is("bestPhrase() of x, x, X", y.bestPhrase(), 0);
    }

    private static void bestPhraseLooksAtTheLastOf16Lines() {
        for (int line = 0; line < 16; line++) {
            BurdenTunes x = Due.with("x;x;x;x;x;x;x;x;x;x;x;x;x;x;x;x;|s;|w");
            x.stress(line, 0, true);
            x.sing(line);
            Due.is("bestPhrase() of line " + line, x.bestPhrase(), 0);
            x.stress(line, 0, false);
            Due.is("bestPhrase() of line " + line + " without its stress", x.bestPhrase(), 1);
        }
    }
}
