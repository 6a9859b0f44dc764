/** "Laying a line on a phrase" and promises 18, 19, 22 and 23 at their edges: each sentence has a test of its own. */
public final class LayingEdgesTest {
    private static final int NONE = BurdenTunes.NONE, NO_SUCH = BurdenTunes.NO_SUCH;
    private static final int[] FIRST = {3, 1, 3, 7};

    public static void main(String[] args) {
        eachSyllableHasOneBeatOrMore();
        theBeatsOfASyllableStandSideBySide();
        restsAreGivenToNoSyllable();
        atMostBreathBeats();
        beatsCanStayFreeAnywhere();
        drawnIsNotForTheFirstBeat();
        lostIsForStrongAndWeakBeatsAlone();
        hurtIsForTheBeatOnWhichASyllableBegins();
        theCostIsTheSum();
        theGreatestCosts();
        theFirstSyllableBeginsEarliest();
        theFirstSyllableHasTheFewestBeats();
        thenTheSecondSyllableAndSoOn();
        theBestWayIsTheOneWithTheLeastCost();
        noWay();
        atMostAMillionIsTold();
        freeBeatsAreWithoutRests();
        syllablesHurtWhateverHurtIs();
        liesOfTheFirstAndOfTheLastSyllable();
        eachQuestionAfterEachOther();
        bestChangeOfOneSyllable();
        bestChangeOfSeveralTheFirst();
        bestChangeMayCostMore();
        bestChangeOfSixteenSyllables();
        enoughBreathFrom1To8();
        enoughBreathIsTheLeastOfSeveral();
        enoughBreathWhateverBreathIs();
        Due.end();
    }

    private static BurdenTunes with(int[] settings, String text) {
        BurdenTunes x = Due.with(text);
        for (int setting = 0; setting < settings.length; setting++) {
            x.set(setting, settings[setting]);
        }
        return x;
    }

    /** The best way of line 0 on phrase 0: its cost, its free beats, its hurting syllables, and where each syllable lies. */
    private static void way(int[] settings, String text, int cost, int free, int hurting, int... places) {
        BurdenTunes x = with(settings, text);
        Due.is("the least cost of " + text, x.fit(0, 0, 0), cost);
        Due.is("the free beats of " + text, x.fit(0, 0, 3), free);
        Due.is("the hurting syllables of " + text, x.fit(0, 0, 4), hurting);
        for (int i = 0; i < places.length; i++) {
            Due.is("lies(0, 0, " + i / 2 + ", " + i % 2 + ") of " + text, x.lies(0, 0, i / 2, i % 2), places[i]);
        }
        Due.is("the syllable behind the last of " + text, x.lies(0, 0, places.length / 2, 0), NO_SUCH);
        Due.is("the free beats of " + text + ", asked first", with(settings, text).fit(0, 0, 3), free);
        Due.is("the hurting syllables of " + text + ", asked first", with(settings, text).fit(0, 0, 4), hurting);
    }

    /** In how many ways line 0 can be laid on phrase 0, and in how many with the least cost. */
    private static void ways(int[] settings, String text, int all, int cheapest) {
        BurdenTunes x = with(settings, text);
        Due.is("the ways of " + text, x.fit(0, 0, 1), all);
        Due.is("the cheapest ways of " + text, x.fit(0, 0, 2), cheapest);
        Due.is("the cheapest ways of " + text + ", asked first", with(settings, text).fit(0, 0, 2), cheapest);
    }

    private static void notLaid(int[] settings, String text) {
        BurdenTunes x = with(settings, text);
        for (int what = 0; what <= 4; what++) {
            Due.is("fit(0, 0, " + what + ") of " + text, x.fit(0, 0, what), what == 1 || what == 2 ? 0 : NONE);
        }
        for (int syllable = 0; syllable < x.line(0, 0); syllable++) {
            Due.is("lies(0, 0, " + syllable + ", 0) of " + text, x.lies(0, 0, syllable, 0), NONE);
            Due.is("lies(0, 0, " + syllable + ", 1) of " + text, x.lies(0, 0, syllable, 1), NONE);
        }
        Due.is("bestChange(0, 0, 0) of " + text, x.bestChange(0, 0, 0), NONE);
        Due.is("bestChange(0, 0, 1) of " + text, x.bestChange(0, 0, 1), NONE);
        Due.is("enoughBreath(0, 0) of " + text, x.enoughBreath(0, 0), NONE);
        Due.is("line(0, 4) of " + text, x.line(0, 4), NONE);
    }

    /** "A way .. gives each syllable one or more beats": as many syllables as beats is enough, one more is too many. */
    private static void eachSyllableHasOneBeatOrMore() {
        for (int syllables = 1; syllables <= 16; syllables++) {
            String line = "X".repeat(syllables);
            ways(FIRST, line + ";|" + "s".repeat(syllables), 1, 1);
            if (syllables > 1) {
                notLaid(FIRST, line + ";|" + "s".repeat(syllables - 1));
            }
        }
        way(FIRST, "Xx;|sw", 0, 0, 0, 0, 1, 1, 1);
        way(FIRST, "X;|s", 0, 0, 0, 0, 1);
        notLaid(FIRST, "XXX;|s.s");
        way(FIRST, "XX;|s.s", 0, 0, 0, 0, 1, 2, 1);
    }

    /** "Beats that stand side by side": a syllable is not drawn over a rest, and not over a free beat. */
    private static void theBeatsOfASyllableStandSideBySide() {
        int[] longBreath = {8, 0, 9, 7};
        way(longBreath, "X;|s.w", 9, 1, 0, 0, 1);
        way(longBreath, "X;|sw.w", 9, 1, 0, 0, 2);
        way(longBreath, "X;|sw.www", 25, 2, 1, 3, 3);
        way(longBreath, "Xx;|sw.w", 0, 0, 0, 0, 2, 3, 1);
        way(longBreath, "Xx;|sww.", 0, 0, 0, 0, 1, 1, 2);
        ways(longBreath, "X;|s.w", 2, 1);
        ways(longBreath, "X;|sw.w", 4, 1);
    }

    /** "And are no rests." */
    private static void restsAreGivenToNoSyllable() {
        notLaid(FIRST, "x;|.");
        notLaid(FIRST, "X;|........................");
        way(FIRST, "x;|.w", 0, 0, 0, 1, 1);
        way(FIRST, "x;|w.", 0, 0, 0, 0, 1);
        way(FIRST, "X;|.......................s", 0, 0, 0, 23, 1);
        way(FIRST, "X;|s.......................", 0, 0, 0, 0, 1);
        way(FIRST, "xX;|.w...s.", 0, 0, 0, 1, 1, 5, 1);
        String sixteenBeats = "|s.s.s.s.s.s.s.s.ssssssss";
        ways(FIRST, "XXXXXXXXXXXXXXXX;" + sixteenBeats, 1, 1);
        notLaid(FIRST, "XXXXXXXXXXXXXXXX;|s.s.s.s.s.s.s.s.s.ssssss");
    }

    /** "At most BREATH of them." */
    private static void atMostBreathBeats() {
        for (int breath = 1; breath <= 8; breath++) {
            int[] settings = {breath, 0, 9, 20};
            way(settings, "X;|s" + "w".repeat(breath - 1), 0, 0, 0, 0, breath);
            way(settings, "X;|s" + "w".repeat(breath), 9, 1, 0, 0, breath);
            way(settings, "X;|s" + "w".repeat(breath + 1), 18, 2, 0, 0, breath);
            ways(settings, "X;|s" + "w".repeat(breath - 1), breath * (breath + 1) / 2, 1);
            ways(settings, "X;|s" + "w".repeat(breath), breath * (breath + 1) / 2 + breath, 1);
        }
        way(new int[] {1, 0, 9, 7}, "XX;|ss", 0, 0, 0, 0, 1, 1, 1);
        way(new int[] {8, 0, 9, 20}, "XX;|swwwwwwwswwwwwww", 0, 0, 0, 0, 8, 8, 8);
        way(new int[] {7, 0, 9, 20}, "XX;|swwwwwwwswwwwwww", 18, 2, 0, 0, 7, 8, 7);
    }

    /** "Beats that are given to no syllable stay free. (Between two syllables there can be free beats and rests.)" */
    private static void beatsCanStayFreeAnywhere() {
        int[] freeIsFree = {3, 9, 0, 20};
        way(freeIsFree, "X;|ws", 0, 1, 0, 1, 1);
        way(freeIsFree, "X;|sw", 0, 1, 0, 0, 1);
        way(freeIsFree, "xx;|wsw", 0, 1, 0, 0, 1, 2, 1);
        way(freeIsFree, "xx;|sws.sws", 0, 4, 0, 1, 1, 5, 1);
        way(freeIsFree, "X;|" + "w".repeat(23) + "s", 0, 23, 0, 23, 1);
        way(freeIsFree, "x;|" + "s".repeat(12) + "w" + "s".repeat(11), 0, 23, 0, 12, 1);
        ways(new int[] {1, 1, 3, 7}, "xx;|www", 3, 3);
        ways(new int[] {1, 1, 3, 7}, "xx;|w.w", 1, 1);
        ways(new int[] {1, 1, 3, 7}, "xx;|w.w.w", 3, 3);
    }

    /** "For each syllable DRAWN times the number of its beats but the first one." */
    private static void drawnIsNotForTheFirstBeat() {
        way(new int[] {3, 9, 9, 7}, "X;|s", 0, 0, 0, 0, 1);
        way(new int[] {3, 9, 9, 7}, "XX;|ss", 0, 0, 0, 0, 1, 1, 1);
        way(new int[] {3, 4, 9, 7}, "X;|sw", 4, 0, 0, 0, 2);
        way(new int[] {3, 4, 9, 7}, "X;|sww", 8, 0, 0, 0, 3);
        way(new int[] {8, 5, 9, 20}, "X;|swwwwwww", 35, 0, 0, 0, 8);
        way(new int[] {3, 4, 9, 7}, "XX;|swwsww", 16, 0, 0, 0, 3, 3, 3);
        way(new int[] {3, 0, 9, 7}, "XX;|swwsww", 0, 0, 0, 0, 3, 3, 3);
    }

    /** "LOST for each strong or weak beat that stays free", and none for a rest. */
    private static void lostIsForStrongAndWeakBeatsAlone() {
        int[] notDrawn = {1, 0, 5, 7};
        way(notDrawn, "X;|sw", 5, 1, 0, 0, 1);
        way(notDrawn, "X;|ss", 5, 1, 0, 0, 1);
        way(notDrawn, "x;|ws", 5, 1, 0, 0, 1);
        way(notDrawn, "x;|sws", 10, 2, 0, 1, 1);
        way(notDrawn, "X;|.s..", 0, 0, 0, 1, 1);
        way(notDrawn, "X;|s.w.s", 10, 2, 0, 0, 1);
        way(new int[] {1, 0, 0, 7}, "X;|sws", 0, 2, 0, 0, 1);
    }

    /** "HURT for each stressed syllable that does not begin on a strong beat, and for each .. not stressed .. on a strong one." */
    private static void hurtIsForTheBeatOnWhichASyllableBegins() {
        int[] dearLost = {3, 1, 9, 6};
        way(dearLost, "X;|s", 0, 0, 0, 0, 1);
        way(dearLost, "x;|w", 0, 0, 0, 0, 1);
        way(dearLost, "X;|w", 6, 0, 1, 0, 1);
        way(dearLost, "x;|s", 6, 0, 1, 0, 1);
        // Where it is drawn to does not matter.
        way(dearLost, "x;|ws", 1, 0, 0, 0, 2);
        way(dearLost, "X;|sw", 1, 0, 0, 0, 2);
        way(dearLost, "X;|ws", 7, 0, 1, 0, 2);
        way(dearLost, "x;|sw", 7, 0, 1, 0, 2);
        way(dearLost, "XX;|ww", 12, 0, 2, 0, 1, 1, 1);
        way(dearLost, "xX;|sw", 12, 0, 2, 0, 1, 1, 1);
        way(dearLost, "XxX;|sss", 6, 0, 1, 0, 1, 1, 1, 2, 1);
    }

    /** "The cost of a way is the sum of these." */
    private static void theCostIsTheSum() {
        // X is drawn over s and w (2), the s between the rests is lost (5).
        way(new int[] {2, 2, 5, 11}, "Xx;|sw.s.w", 7, 1, 0, 0, 2, 5, 1);
        // X is drawn over s and w (2), and x hurts (6); if the last s was lost (9), it would be dearer.
        way(new int[] {2, 2, 9, 6}, "Xx;|sw.s", 8, 0, 1, 0, 2, 3, 1);
        way(new int[] {2, 2, 5, 6}, "Xx;|sw.s", 5, 1, 0, 0, 1, 1, 1);
        // Two syllables hurt (3 and 3), one is drawn (2), a beat between rests is lost (9).
        way(new int[] {2, 2, 9, 3}, "XX;|w.w.ww", 17, 1, 2, 0, 1, 4, 2);
        way(new int[] {2, 2, 5, 11}, "Xx;|sww.s", 7, 1, 0, 0, 1, 1, 2);
        way(new int[] {2, 2, 9, 3}, "X;|w.s.w", 18, 2, 0, 2, 1);
    }

    /** All beats and all syllables at the greatest settings; nothing costs where all settings are 0. */
    private static void theGreatestCosts() {
        String greatest = "X".repeat(16) + ";|" + "w".repeat(24);
        BurdenTunes x = with(new int[] {1, 9, 9, 20}, greatest);
        Due.is("the greatest cost", x.fit(0, 0, 0), 16 * 20 + 8 * 9);
        Due.is("its free beats", x.fit(0, 0, 3), 8);
        Due.is("its hurting syllables", x.fit(0, 0, 4), 16);
        BurdenTunes y = with(new int[] {1, 9, 9, 20}, "X;|" + "w".repeat(24));
        Due.is("one syllable on 24 beats", y.fit(0, 0, 0), 20 + 23 * 9);
        y.set(BurdenTunes.BREATH, 8);
        y.set(BurdenTunes.DRAWN, 8);
        Due.is("one syllable drawn over 8 of 24 beats", y.fit(0, 0, 0), 20 + 7 * 8 + 16 * 9);
        BurdenTunes z = with(new int[] {8, 0, 0, 0}, greatest);
        Due.is("where nothing costs", z.fit(0, 0, 0), 0);
        Due.is("the hurting syllables of it", z.fit(0, 0, 4), 16);
        Due.is("the free beats of it", z.fit(0, 0, 3), 8);
    }

    /** "Of several the one whose first syllable begins earliest": before it is asked how many beats it has. */
    private static void theFirstSyllableBeginsEarliest() {
        int[] nothingCosts = {3, 0, 0, 0};
        way(nothingCosts, "x;|www", 0, 2, 0, 0, 1);
        way(nothingCosts, "x;|.www", 0, 2, 0, 1, 1);
        way(nothingCosts, "x;|sww", 0, 2, 1, 0, 1);
        way(new int[] {1, 0, 2, 7}, "X;|wsws", 6, 3, 0, 1, 1);
        // Both cost 8: X on w and s, or on s alone.
        way(new int[] {3, 1, 8, 7}, "X;|ws", 8, 0, 1, 0, 2);
        way(new int[] {3, 1, 8, 7}, "x;|sw", 8, 0, 1, 0, 2);
        way(new int[] {3, 1, 1, 7}, "xx;|wsw", 1, 1, 0, 0, 1, 2, 1);
    }

    /** "Of these the one whose first syllable has the fewest beats." */
    private static void theFirstSyllableHasTheFewestBeats() {
        way(new int[] {3, 4, 4, 7}, "X;|sww", 8, 2, 0, 0, 1);
        way(new int[] {8, 0, 0, 7}, "X;|swwwwwww", 0, 7, 0, 0, 1);
        way(new int[] {3, 2, 5, 7}, "xx;|www", 2, 0, 0, 0, 1, 1, 2);
        way(new int[] {2, 2, 5, 7}, "xx;|www.", 2, 0, 0, 0, 1, 1, 2);
        way(new int[] {2, 2, 5, 7}, "xx;|wwww", 4, 0, 0, 0, 2, 2, 2);
        way(new int[] {3, 2, 5, 7}, "xx;|wwww", 4, 0, 0, 0, 1, 1, 3);
    }

    /** "Of these the one whose second syllable begins earliest, and so on." */
    private static void thenTheSecondSyllableAndSoOn() {
        int[] oneBeat = {1, 0, 2, 7};
        way(oneBeat, "xx;|www", 2, 1, 0, 0, 1, 1, 1);
        way(oneBeat, "xx;|wsww", 4, 2, 0, 0, 1, 2, 1);
        way(oneBeat, "xxx;|w.wwww", 4, 2, 0, 0, 1, 2, 1, 3, 1);
        way(oneBeat, "xX;|wswsws", 8, 4, 0, 0, 1, 1, 1);
        int[] nothingCosts = {3, 0, 0, 0};
        way(nothingCosts, "xXx;|ww.ww.", 0, 1, 1, 0, 1, 1, 1, 3, 1);
        int[] drawnAsDearAsLost = {3, 3, 3, 7};
        way(drawnAsDearAsLost, "xx;|wwww", 6, 2, 0, 0, 1, 1, 1);
        way(drawnAsDearAsLost, "xxX;|wwwws", 6, 2, 0, 0, 1, 1, 1, 4, 1);
        int[] free = {3, 1, 9, 7};
        way(free, "xxx;|wwwww", 2, 0, 0, 0, 1, 1, 1, 2, 3);
        way(free, "xxx;|wwwwww", 3, 0, 0, 0, 1, 1, 2, 3, 3);
        way(free, "xxx;|wwwwwww", 4, 0, 0, 0, 1, 1, 3, 4, 3);
        way(free, "xxx;|wwwwwwww", 5, 0, 0, 0, 2, 2, 3, 5, 3);
        way(free, "xxx;|wwwwwwwwww", 15, 1, 0, 0, 3, 3, 3, 6, 3);
    }

    /** "The best way is the one with the least cost": one that begins later or holds more beats, if it is cheaper by 1. */
    private static void theBestWayIsTheOneWithTheLeastCost() {
        way(new int[] {3, 1, 7, 7}, "X;|ws", 7, 1, 0, 1, 1);
        way(new int[] {3, 1, 8, 7}, "X;|ws", 8, 0, 1, 0, 2);
        way(new int[] {3, 2, 8, 7}, "X;|ws", 8, 1, 0, 1, 1);
        way(new int[] {3, 3, 4, 7}, "X;|sw", 3, 0, 0, 0, 2);
        way(new int[] {3, 4, 4, 7}, "X;|sw", 4, 1, 0, 0, 1);
        way(new int[] {3, 4, 3, 7}, "X;|sw", 3, 1, 0, 0, 1);
        way(new int[] {1, 0, 3, 20}, "xX;|swws", 6, 2, 0, 1, 1, 3, 1);
    }

    /** "A line cannot be laid on a phrase if there is no way"; BREATH does not help. */
    private static void noWay() {
        for (int breath : new int[] {1, 3, 8}) {
            int[] settings = {breath, 0, 0, 0};
            notLaid(settings, "xx;|w");
            notLaid(settings, "xX;|.s.");
            notLaid(settings, "x;|..");
            notLaid(settings, "xxxxxxxxxxxxxxxx;|www.www.www.www.www");
            notLaid(settings, "xxx;|.w.....................w");
        }
        way(FIRST, "xx;|.w.....................w", 0, 0, 0, 1, 1, 23, 1);
    }

    /** "1 in how many ways it can be laid (at most 1000000 is told), 2 in how many with the least cost (likewise)." */
    private static void atMostAMillionIsTold() {
        ways(new int[] {4, 0, 0, 0}, "xxxxxx;|wwwwwww.wwwwwwww.www", 999939, 999939);
        ways(new int[] {6, 0, 0, 0}, "xxxxxxxxxxx;|wwwwwwwwwwwwww.ww.ww", 1000000, 1000000);
        ways(new int[] {5, 0, 0, 0}, "xxxxxxx;|wwww.wwwwwww.www.ww.ww", 1000000, 1000000);
        ways(new int[] {8, 0, 0, 0}, "xxxxxxxx;|" + "w".repeat(24), 1000000, 1000000);
        // The ways to part 24 beats into 8 pieces of at most 8.
        ways(new int[] {8, 1, 3, 7}, "Xxxxxxxx;|s" + "w".repeat(23), 1000000, 245157 - 8 * 6435 + 28);
        ways(FIRST, "x;|w", 1, 1);
    }

    /** "3 the beats that stay free by the best way (without rests)." */
    private static void freeBeatsAreWithoutRests() {
        way(FIRST, "x;|w......", 0, 0, 0, 0, 1);
        way(FIRST, "x;|.w.w.w.", 6, 2, 0, 1, 1);
        way(new int[] {1, 1, 3, 7}, "X;|s.ws.", 6, 2, 0, 0, 1);
        way(new int[] {1, 1, 0, 7}, "X;|sss.sss", 0, 5, 0, 0, 1);
        BurdenTunes x = with(new int[] {1, 0, 0, 0}, "x;|" + "w".repeat(24));
        Due.is("the free beats of one syllable on 24", x.fit(0, 0, 3), 23);
    }

    /** "4 its syllables that hurt: for which HURT is counted, whatever HURT is." */
    private static void syllablesHurtWhateverHurtIs() {
        for (int hurt : new int[] {0, 1, 7, 20}) {
            int[] settings = {1, 0, 9, hurt};
            way(settings, "XxXx;|wsws", 4 * hurt, 0, 4, 0, 1, 1, 1, 2, 1, 3, 1);
            way(settings, "XxXx;|swww", hurt, 0, 1, 0, 1, 1, 1, 2, 1, 3, 1);
            way(settings, "XxXx;|swsw", 0, 0, 0, 0, 1, 1, 1, 2, 1, 3, 1);
            way(settings, "x;|s", hurt, 0, 1, 0, 1);
            way(settings, "X;|w", hurt, 0, 1, 0, 1);
        }
    }

    /** Promise 19: the first and the last syllable, the first and the last beat. */
    private static void liesOfTheFirstAndOfTheLastSyllable() {
        BurdenTunes x = with(new int[] {8, 1, 9, 7}, "X".repeat(16) + ";|" + "s".repeat(24));
        Due.is("lies of the first of 16", x.lies(0, 0, 0, 0), 0);
        Due.is("beats of the first of 16", x.lies(0, 0, 0, 1), 1);
        Due.is("lies of number 14 of 16", x.lies(0, 0, 14, 0), 14);
        Due.is("beats of number 14 of 16", x.lies(0, 0, 14, 1), 2);
        Due.is("lies of the last of 16", x.lies(0, 0, 15, 0), 16);
        Due.is("beats of the last of 16", x.lies(0, 0, 15, 1), 8);
        Due.is("lies behind the last of 16", x.lies(0, 0, 16, 0), NO_SUCH);
        BurdenTunes y = Due.with("x;xX;|ws;|w");
        Due.is("lies of syllable 1 of a line of 1", y.lies(0, 0, 1, 0), NO_SUCH);
        Due.is("lies of syllable 1 of a line of 2", y.lies(1, 0, 1, 0), 1);
        Due.is("lies of syllable 1 that cannot be laid", y.lies(1, 1, 1, 0), NONE);
        Due.is("lies of syllable 2 of a line that cannot be laid", y.lies(1, 1, 2, 0), NO_SUCH);
    }

    /** What was asked before does not matter: longer and shorter lines on longer and shorter phrases, by turns. */
    private static void eachQuestionAfterEachOther() {
        String[] lines = {"X", "xXxXxX", "xx", "XxX"};
        String[] phrases = {"sw", "swwsw.sws", "w", "ws.ws"};
        BurdenTunes x = Due.with(String.join(";", lines) + ";|" + String.join(";|", phrases));
        for (int number = 0; number < 16; number++) {
            for (int other = 0; other < 16; other++) {
                int what = (number + other) % 5;
                BurdenTunes alone = Due.with(lines[other / 4] + ";|" + phrases[other % 4]);
                x.fit(number / 4, number % 4, what);
                String name = lines[other / 4] + " on " + phrases[other % 4] + " after " + lines[number / 4] + " on " + phrases[number % 4];
                Due.is(name, x.fit(other / 4, other % 4, what), alone.fit(0, 0, what));
            }
        }
    }

    private static void change(int[] settings, String text, int syllable, int cost) {
        BurdenTunes x = with(settings, text);
        Due.is("bestChange(0, 0, 0) of " + text, x.bestChange(0, 0, 0), syllable);
        Due.is("bestChange(0, 0, 1) of " + text, x.bestChange(0, 0, 1), cost);
        Due.is("bestChange(0, 0, 0) of " + text + " again", x.bestChange(0, 0, 0), syllable);
        Due.holds("bestChange left the line of " + text, Due.lineOf(x, 0).equals(text.substring(0, text.indexOf(';'))));
    }

    /** Promise 22: a line of one syllable has one other stress. */
    private static void bestChangeOfOneSyllable() {
        change(FIRST, "X;|w", 0, 0);
        change(FIRST, "x;|s", 0, 0);
        change(FIRST, "x;|w", 0, 7);
        change(FIRST, "X;|s", 0, 7);
        change(new int[] {3, 1, 3, 0}, "X;|s", 0, 0);
    }

    /** "Of several the first one." */
    private static void bestChangeOfSeveralTheFirst() {
        change(FIRST, "XX;|ww", 0, 7);
        change(FIRST, "xXXx;|wwww", 1, 7);
        change(FIRST, "XxxX;|swww", 3, 0);
        change(new int[] {3, 1, 3, 0}, "xXxX;|swsw", 0, 0);
        change(FIRST, "x".repeat(16) + ";|" + "w".repeat(16), 0, 7);
    }

    /** The other stress that costs least is told also if the line as it is costs less. */
    private static void bestChangeMayCostMore() {
        change(FIRST, "Xx;|sw", 0, 7);
        change(FIRST, "xX;|w.s", 0, 7);
        change(FIRST, "xX;|wws", 1, 1);
        change(new int[] {3, 1, 3, 20}, "Xx;|s.w", 0, 20);
    }

    private static void bestChangeOfSixteenSyllables() {
        String weak = "w".repeat(16);
        for (int place = 0; place < 16; place++) {
            String line = "x".repeat(place) + "X" + "x".repeat(15 - place);
            change(FIRST, line + ";|" + weak, place, 0);
            change(FIRST, "x".repeat(16) + ";|" + weak.substring(0, place) + "s" + weak.substring(place + 1), place, 0);
        }
    }

    private static void enough(int[] settings, String text, int want) {
        BurdenTunes x = with(settings, text);
        Due.is("enoughBreath(0, 0) of " + text, x.enoughBreath(0, 0), want);
        Due.is("BREATH after it", x.count(5), settings[BurdenTunes.BREATH]);
    }

    /** "The least BREATH, 1 to 8." */
    private static void enoughBreathFrom1To8() {
        for (int beats = 1; beats <= 12; beats++) {
            enough(new int[] {3, 1, 9, 20}, "X;|s" + "w".repeat(beats - 1), Math.min(beats, 8));
            enough(new int[] {3, 1, 9, 20}, "X;|.s" + "w".repeat(beats - 1) + ".", Math.min(beats, 8));
        }
        enough(FIRST, "Xx;|sw", 1);
        enough(FIRST, "Xx;|sww", 2);
        enough(FIRST, "xx;|" + "w".repeat(16), 8);
        enough(FIRST, "xx;|" + "w".repeat(15), 8);
        enough(FIRST, "xx;|" + "w".repeat(14), 7);
    }

    /** "With the least cost that any BREATH brings": if more breath saves nothing, less is enough. */
    private static void enoughBreathIsTheLeastOfSeveral() {
        enough(new int[] {3, 3, 3, 7}, "X;|swww", 1);
        enough(new int[] {3, 2, 3, 7}, "X;|swww", 4);
        enough(new int[] {3, 9, 0, 7}, "X;|swww", 1);
        enough(new int[] {3, 0, 0, 0}, "X;|swww", 1);
        enough(new int[] {3, 0, 1, 0}, "X;|swww", 4);
        enough(FIRST, "X;|sw.w", 2);
    }

    /** What BREATH is set to does not matter. */
    private static void enoughBreathWhateverBreathIs() {
        for (int breath = 1; breath <= 8; breath++) {
            enough(new int[] {breath, 1, 9, 20}, "X;|swwww", 5);
            enough(new int[] {breath, 1, 9, 20}, "X;|swwwwwwwww", 8);
            enough(new int[] {breath, 1, 9, 20}, "Xx;|sw", 1);
            enough(new int[] {breath, 1, 9, 20}, "Xx;|s", NONE);
        }
    }
}
