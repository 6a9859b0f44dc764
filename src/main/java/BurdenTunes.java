/**
 * A book of lines and phrases, a ballad made of the lines, and a tune made of the phrases.
 * Every row is made in the constructors and used again, so that calls make no objects.
 */
public final class BurdenTunes {
    public static final int NO_SUCH = -1, BAD_VALUE = -2, BAD_TEXT = -3, TOO_MANY = -4, NOT_POSSIBLE = -5, NONE = -6;
    public static final int BREATH = 0, DRAWN = 1, LOST = 2, HURT = 3;

    private static final int MAX_LINES = 16, MAX_SYLLABLES = 16, MAX_PHRASES = 8, MAX_BEATS = 24;
    private static final int MAX_BALLAD = 40, MAX_TUNE = 8, MAX_PAD = 60, MAX_HISTORY = 6, SLOTS = 2;
    private static final int SETTINGS = 4, MAX_BREATH = 8, MAX_WAYS = 1000000;
    private static final int REST = 0, WEAK = 1, STRONG = 2;
    private static final int[] LEAST_VALUES = {1, 0, 0, 0};
    private static final int[] GREATEST_VALUES = {8, 9, 9, 20};
    private static final int[] FIRST_VALUES = {3, 1, 3, 7};

    // Far above the cost of any way, and far below the greatest int, so that costs can be added to it.
    private static final int NO_WAY = 1000000;

    private final Book book = new Book();
    private final Pad pad = new Pad();
    private final Laying laying = new Laying();
    private final Book[] history = new Book[MAX_HISTORY];
    private int historyCount = 0;
    private final Book[] slots = new Book[SLOTS];
    private final boolean[] isSaved = new boolean[SLOTS];

    public BurdenTunes() {
        for (int i = 0; i < MAX_HISTORY; i++) {
            history[i] = new Book();
        }
        for (int i = 0; i < SLOTS; i++) {
            slots[i] = new Book();
        }
    }

    // ---- changes

    public int set(int setting, int value) {
        if (setting < 0 || setting >= SETTINGS) {
            return BAD_VALUE;
        }
        if (value < LEAST_VALUES[setting] || value > GREATEST_VALUES[setting]) {
            return BAD_VALUE;
        }
        record();
        int previous = book.settings[setting];
        book.settings[setting] = value;
        return previous;
    }

    public int write() {
        if (pad.faultPlace() != NONE) {
            return BAD_TEXT;
        }
        int phrases = pad.phraseParts();
        int lines = pad.parts() - phrases;
        if (book.lineCount + lines > MAX_LINES || book.phraseCount + phrases > MAX_PHRASES) {
            return TOO_MANY;
        }
        record();
        for (int i = 0; i < pad.length; i++) {
            if (pad.beginsPart(i)) {
                book.beginPart(pad.signs[i] == '|');
            }
            book.addSign(pad.signs[i]);
        }
        pad.length = 0;
        return book.lineCount;
    }

    public int dropLine(int line) {
        if (!book.hasLine(line)) {
            return NO_SUCH;
        }
        record();
        book.removeLine(line);
        return book.balladCount;
    }

    public int dropPhrase(int phrase) {
        if (!book.hasPhrase(phrase)) {
            return NO_SUCH;
        }
        record();
        book.removePhrase(phrase);
        return book.tuneCount;
    }

    public int stress(int line, int syllable, boolean isStressed) {
        if (!book.hasSyllable(line, syllable)) {
            return NO_SUCH;
        }
        record();
        int place = line * MAX_SYLLABLES + syllable;
        int previous = book.stresses[place];
        book.stresses[place] = isStressed ? 1 : 0;
        return previous;
    }

    public int beat(int phrase, int beat, int kind) {
        if (!book.hasBeat(phrase, beat)) {
            return NO_SUCH;
        }
        if (kind < REST || kind > STRONG) {
            return BAD_VALUE;
        }
        record();
        int place = phrase * MAX_BEATS + beat;
        int previous = book.kinds[place];
        book.kinds[place] = kind;
        return previous;
    }

    public int sing(int line) {
        if (!book.hasLine(line)) {
            return NO_SUCH;
        }
        if (book.balladCount >= MAX_BALLAD) {
            return TOO_MANY;
        }
        record();
        book.addToBallad(line);
        return book.balladCount;
    }

    public int play(int phrase) {
        if (!book.hasPhrase(phrase)) {
            return NO_SUCH;
        }
        if (book.tuneCount >= MAX_TUNE) {
            return TOO_MANY;
        }
        record();
        book.addToTune(phrase);
        return book.tuneCount;
    }

    public int verse(int first, int last, int burden) {
        if (!book.hasLine(first) || !book.hasLine(last) || !book.hasLine(burden)) {
            return NO_SUCH;
        }
        if (last < first) {
            return BAD_VALUE;
        }
        if (book.balladCount + 2 * (last - first + 1) > MAX_BALLAD) {
            return TOO_MANY;
        }
        record();
        for (int line = first; line <= last; line++) {
            book.addToBallad(line);
            book.addToBallad(burden);
        }
        return book.balladCount;
    }

    public int clear(boolean isTune) {
        record();
        int previous = isTune ? book.tuneCount : book.balladCount;
        if (isTune) {
            book.tuneCount = 0;
        } else {
            book.balladCount = 0;
        }
        return previous;
    }

    // ---- what there is; nothing changes

    public int line(int line, int what) {
        if (!book.hasLine(line)) {
            return NO_SUCH;
        }
        switch (what) {
            case 0: return book.syllableCounts[line];
            case 1: return book.stressedOf(line);
            case 2: return book.timesSung(line);
            case 3: return book.timesSung(line) >= 2 ? 1 : 0;
            case 4: return cheapestPhrase(line);
            default: return BAD_VALUE;
        }
    }

    public int phrase(int phrase, int what) {
        if (!book.hasPhrase(phrase)) {
            return NO_SUCH;
        }
        switch (what) {
            case 0: return book.beatCounts[phrase];
            case 1: return book.beatsOfKind(phrase, STRONG);
            case 2: return book.beatsOfKind(phrase, WEAK);
            case 3: return book.beatsOfKind(phrase, REST);
            case 4: return book.timesPlayed(phrase);
            case 5: return book.longestRow(phrase);
            default: return BAD_VALUE;
        }
    }

    public int isStressed(int line, int syllable) {
        if (!book.hasSyllable(line, syllable)) {
            return NO_SUCH;
        }
        return book.stresses[line * MAX_SYLLABLES + syllable];
    }

    public int kindOf(int phrase, int beat) {
        if (!book.hasBeat(phrase, beat)) {
            return NO_SUCH;
        }
        return book.kinds[phrase * MAX_BEATS + beat];
    }

    public int count(int what) {
        switch (what) {
            case 0: return book.lineCount;
            case 1: return book.phraseCount;
            case 2: return book.balladCount;
            case 3: return book.tuneCount;
            case 4: return book.burdens();
            case 5: return book.settings[BREATH];
            case 6: return book.settings[DRAWN];
            case 7: return book.settings[LOST];
            case 8: return book.settings[HURT];
            case 9: return pad.length;
            case 10: return historyCount;
            default: return BAD_VALUE;
        }
    }

    public int at(boolean isTune, int place) {
        if (place < 0 || place >= (isTune ? book.tuneCount : book.balladCount)) {
            return NO_SUCH;
        }
        return isTune ? book.tune[place] : book.ballad[place];
    }

    // ---- what follows; nothing changes

    public int fit(int line, int phrase, int what) {
        if (!book.hasLine(line) || !book.hasPhrase(phrase)) {
            return NO_SUCH;
        }
        if (what < 0 || what > 4) {
            return BAD_VALUE;
        }
        int cost = leastCostOf(line, phrase);
        if (cost >= NO_WAY) {
            return what == 1 || what == 2 ? 0 : NONE;
        }
        switch (what) {
            case 1: return laying.countWays(false);
            case 2: return laying.countWays(true);
            case 3: return laying.freeBeats();
            case 4: return laying.hurtSyllables();
            default: return cost;
        }
    }

    public int lies(int line, int phrase, int syllable, int what) {
        if (!book.hasSyllable(line, syllable) || !book.hasPhrase(phrase)) {
            return NO_SUCH;
        }
        if (what < 0 || what > 1) {
            return BAD_VALUE;
        }
        if (leastCostOf(line, phrase) >= NO_WAY) {
            return NONE;
        }
        laying.findBestWay();
        return what == 0 ? laying.firstBeats[syllable] : laying.heldBeats[syllable];
    }

    public int whole(int what) {
        if (what < 0 || what > 3) {
            return BAD_VALUE;
        }
        if (book.tuneCount < 1) {
            return NOT_POSSIBLE;
        }
        int sum = 0;
        int unlaid = 0;
        int beats = 0;
        int greatest = -1;
        int greatestPlace = NONE;
        for (int place = 0; place < book.balladCount; place++) {
            int phrase = book.tune[place % book.tuneCount];
            beats += book.beatCounts[phrase];
            int cost = leastCostOf(book.ballad[place], phrase);
            if (cost >= NO_WAY) {
                unlaid++;
                continue;
            }
            sum += cost;
            if (cost > greatest) {
                greatest = cost;
                greatestPlace = place;
            }
        }
        switch (what) {
            case 0: return sum;
            case 1: return unlaid;
            case 2: return greatestPlace;
            default: return beats;
        }
    }

    public int bestPhrase() {
        int best = NONE;
        int fewestUnlaid = 0;
        int leastSum = 0;
        for (int phrase = 0; phrase < book.phraseCount; phrase++) {
            int unlaid = 0;
            int sum = 0;
            for (int line = 0; line < book.lineCount; line++) {
                int times = book.timesSung(line);
                int cost = times == 0 ? 0 : leastCostOf(line, phrase);
                if (cost >= NO_WAY) {
                    unlaid += times;
                } else {
                    sum += times * cost;
                }
            }
            if (best == NONE || unlaid < fewestUnlaid || unlaid == fewestUnlaid && sum < leastSum) {
                best = phrase;
                fewestUnlaid = unlaid;
                leastSum = sum;
            }
        }
        return best;
    }

    public int bestChange(int line, int phrase, int what) {
        if (!book.hasLine(line) || !book.hasPhrase(phrase)) {
            return NO_SUCH;
        }
        if (what < 0 || what > 1) {
            return BAD_VALUE;
        }
        laying.take(book, line, phrase);
        int best = NONE;
        int leastCost = NO_WAY;
        for (int syllable = 0; syllable < book.syllableCounts[line]; syllable++) {
            laying.turnStress(syllable);
            int cost = laying.leastCost();
            laying.turnStress(syllable);
            if (cost < leastCost) {
                leastCost = cost;
                best = syllable;
            }
        }
        return what == 0 || best == NONE ? best : leastCost;
    }

    public int enoughBreath(int line, int phrase) {
        if (!book.hasLine(line) || !book.hasPhrase(phrase)) {
            return NO_SUCH;
        }
        laying.take(book, line, phrase);
        int enough = NONE;
        int leastCost = NO_WAY;
        for (int breath = 1; breath <= MAX_BREATH; breath++) {
            laying.breath = breath;
            int cost = laying.leastCost();
            if (cost < leastCost) {
                leastCost = cost;
                enough = breath;
            }
        }
        return enough;
    }

    // ---- texts

    public int put(long characters) {
        int signs = Pad.signsIn(characters);
        if (signs < 1) {
            return BAD_VALUE;
        }
        if (pad.length + signs > MAX_PAD) {
            return TOO_MANY;
        }
        pad.append(characters, signs);
        return pad.length;
    }

    public int wipe() {
        int previous = pad.length;
        pad.length = 0;
        return previous;
    }

    public int fault() {
        return pad.faultPlace();
    }

    // ---- undo, saving

    public int undo() {
        if (historyCount < 1) {
            return NOT_POSSIBLE;
        }
        historyCount--;
        book.takeOver(history[historyCount]);
        return historyCount;
    }

    public int save(int slot) {
        if (slot < 0 || slot >= SLOTS) {
            return BAD_VALUE;
        }
        slots[slot].takeOver(book);
        isSaved[slot] = true;
        return book.lineCount;
    }

    public int restore(int slot) {
        if (slot < 0 || slot >= SLOTS) {
            return BAD_VALUE;
        }
        if (!isSaved[slot]) {
            return NOT_POSSIBLE;
        }
        record();
        book.takeOver(slots[slot]);
        return book.lineCount;
    }

    private void record() {
        if (historyCount == MAX_HISTORY) {
            // The oldest state is dropped; its book serves for the newest one.
            Book oldest = history[0];
            for (int i = 1; i < MAX_HISTORY; i++) {
                history[i - 1] = history[i];
            }
            history[MAX_HISTORY - 1] = oldest;
            historyCount--;
        }
        history[historyCount].takeOver(book);
        historyCount++;
    }

    /** NO_WAY if the line cannot be laid; afterwards the laying can tell more about this line and phrase. */
    private int leastCostOf(int line, int phrase) {
        laying.take(book, line, phrase);
        return laying.leastCost();
    }

    private int cheapestPhrase(int line) {
        int cheapest = NONE;
        int leastCost = NO_WAY;
        for (int phrase = 0; phrase < book.phraseCount; phrase++) {
            int cost = leastCostOf(line, phrase);
            if (cost < leastCost) {
                leastCost = cost;
                cheapest = phrase;
            }
        }
        return cheapest;
    }

    /** All that undo, save and restore are about. */
    private static final class Book {
        final int[] settings = new int[SETTINGS];
        int lineCount = 0;
        final int[] syllableCounts = new int[MAX_LINES];
        final int[] stresses = new int[MAX_LINES * MAX_SYLLABLES];
        int phraseCount = 0;
        final int[] beatCounts = new int[MAX_PHRASES];
        final int[] kinds = new int[MAX_PHRASES * MAX_BEATS];
        int balladCount = 0;
        final int[] ballad = new int[MAX_BALLAD];
        int tuneCount = 0;
        final int[] tune = new int[MAX_TUNE];

        Book() {
            System.arraycopy(FIRST_VALUES, 0, settings, 0, SETTINGS);
        }

        void takeOver(Book other) {
            System.arraycopy(other.settings, 0, settings, 0, SETTINGS);
            lineCount = other.lineCount;
            System.arraycopy(other.syllableCounts, 0, syllableCounts, 0, MAX_LINES);
            System.arraycopy(other.stresses, 0, stresses, 0, MAX_LINES * MAX_SYLLABLES);
            phraseCount = other.phraseCount;
            System.arraycopy(other.beatCounts, 0, beatCounts, 0, MAX_PHRASES);
            System.arraycopy(other.kinds, 0, kinds, 0, MAX_PHRASES * MAX_BEATS);
            balladCount = other.balladCount;
            System.arraycopy(other.ballad, 0, ballad, 0, MAX_BALLAD);
            tuneCount = other.tuneCount;
            System.arraycopy(other.tune, 0, tune, 0, MAX_TUNE);
        }

        boolean hasLine(int line) {
            return line >= 0 && line < lineCount;
        }

        boolean hasPhrase(int phrase) {
            return phrase >= 0 && phrase < phraseCount;
        }

        boolean hasSyllable(int line, int syllable) {
            return hasLine(line) && syllable >= 0 && syllable < syllableCounts[line];
        }

        boolean hasBeat(int phrase, int beat) {
            return hasPhrase(phrase) && beat >= 0 && beat < beatCounts[phrase];
        }

        void beginPart(boolean isPhrase) {
            if (isPhrase && phraseCount < MAX_PHRASES) {
                beatCounts[phraseCount] = 0;
                phraseCount++;
            } else if (!isPhrase && lineCount < MAX_LINES) {
                syllableCounts[lineCount] = 0;
                lineCount++;
            }
        }

        /** A syllable goes to the latest line, a beat to the latest phrase; other signs are passed over. */
        void addSign(char sign) {
            if (Pad.isSyllable(sign)) {
                addSyllable(sign == 'X' ? 1 : 0);
            } else if (Pad.isBeat(sign)) {
                addBeat(sign == 's' ? STRONG : sign == 'w' ? WEAK : REST);
            }
        }

        void addSyllable(int stressed) {
            int line = lineCount - 1;
            if (line >= 0 && syllableCounts[line] < MAX_SYLLABLES) {
                stresses[line * MAX_SYLLABLES + syllableCounts[line]] = stressed;
                syllableCounts[line]++;
            }
        }

        void addBeat(int kind) {
            int phrase = phraseCount - 1;
            if (phrase >= 0 && beatCounts[phrase] < MAX_BEATS) {
                kinds[phrase * MAX_BEATS + beatCounts[phrase]] = kind;
                beatCounts[phrase]++;
            }
        }

        void removeLine(int line) {
            int behind = lineCount - line - 1;
            System.arraycopy(syllableCounts, line + 1, syllableCounts, line, behind);
            System.arraycopy(stresses, (line + 1) * MAX_SYLLABLES,
                    stresses, line * MAX_SYLLABLES, behind * MAX_SYLLABLES);
            lineCount--;
            balladCount = withoutNumber(ballad, balladCount, line);
        }

        void removePhrase(int phrase) {
            int behind = phraseCount - phrase - 1;
            System.arraycopy(beatCounts, phrase + 1, beatCounts, phrase, behind);
            System.arraycopy(kinds, (phrase + 1) * MAX_BEATS,
                    kinds, phrase * MAX_BEATS, behind * MAX_BEATS);
            phraseCount--;
            tuneCount = withoutNumber(tune, tuneCount, phrase);
        }

        /** Takes a number out of a row of numbers, lowers the greater ones, and returns the length then. */
        static int withoutNumber(int[] row, int length, int number) {
            int kept = 0;
            for (int i = 0; i < length; i++) {
                if (row[i] != number) {
                    row[kept] = row[i] > number ? row[i] - 1 : row[i];
                    kept++;
                }
            }
            return kept;
        }

        void addToBallad(int line) {
            if (balladCount < MAX_BALLAD) {
                ballad[balladCount] = line;
                balladCount++;
            }
        }

        void addToTune(int phrase) {
            if (tuneCount < MAX_TUNE) {
                tune[tuneCount] = phrase;
                tuneCount++;
            }
        }

        int timesSung(int line) {
            return timesIn(ballad, balladCount, line);
        }

        int timesPlayed(int phrase) {
            return timesIn(tune, tuneCount, phrase);
        }

        static int timesIn(int[] row, int length, int number) {
            int times = 0;
            for (int i = 0; i < length; i++) {
                if (row[i] == number) {
                    times++;
                }
            }
            return times;
        }

        int burdens() {
            int burdens = 0;
            for (int line = 0; line < lineCount; line++) {
                if (timesSung(line) >= 2) {
                    burdens++;
                }
            }
            return burdens;
        }

        int stressedOf(int line) {
            int stressed = 0;
            for (int syllable = 0; syllable < syllableCounts[line]; syllable++) {
                stressed += stresses[line * MAX_SYLLABLES + syllable];
            }
            return stressed;
        }

        int beatsOfKind(int phrase, int kind) {
            int beats = 0;
            for (int beat = 0; beat < beatCounts[phrase]; beat++) {
                if (kinds[phrase * MAX_BEATS + beat] == kind) {
                    beats++;
                }
            }
            return beats;
        }

        int longestRow(int phrase) {
            int longest = 0;
            int row = 0;
            for (int beat = 0; beat < beatCounts[phrase]; beat++) {
                row = kinds[phrase * MAX_BEATS + beat] == REST ? 0 : row + 1;
                longest = Math.max(longest, row);
            }
            return longest;
        }
    }

    /** The text that waits to be written. */
    private static final class Pad {
        static final int NO_PART = 0, IN_LINE = 1, IN_PHRASE = 2;

        final char[] signs = new char[MAX_PAD];
        int length = 0;

        static boolean isSyllable(char sign) {
            return sign == 'x' || sign == 'X';
        }

        static boolean isBeat(char sign) {
            return sign == 's' || sign == 'w' || sign == '.';
        }

        /** How many characters a number holds, 0 if there are none or one of them is not allowed. */
        static int signsIn(long characters) {
            long rest = characters;
            int signs = 0;
            while (rest != 0 && signs < 8) {
                long code = rest & 255;
                if (code < 33 || code > 126) {
                    return 0;
                }
                rest >>>= 8;
                signs++;
            }
            return signs;
        }

        void append(long characters, int count) {
            for (int i = count - 1; i >= 0; i--) {
                if (length < MAX_PAD) {
                    signs[length] = (char) ((characters >>> (8 * i)) & 255);
                    length++;
                }
            }
        }

        boolean beginsPart(int place) {
            return place == 0 || place > 0 && place < length && signs[place - 1] == ';';
        }

        int parts() {
            int parts = 0;
            for (int i = 0; i < length; i++) {
                if (beginsPart(i)) {
                    parts++;
                }
            }
            return parts;
        }

        int phraseParts() {
            int parts = 0;
            for (int i = 0; i < length; i++) {
                if (signs[i] == '|') {
                    parts++;
                }
            }
            return parts;
        }

        int faultPlace() {
            int part = NO_PART;
            int size = 0;
            for (int i = 0; i < length; i++) {
                char sign = signs[i];
                if (sign == ';' && size > 0) {
                    part = NO_PART;
                    size = 0;
                } else if (sign == '|' && part == NO_PART) {
                    part = IN_PHRASE;
                } else if (isSyllable(sign) && part != IN_PHRASE && size < MAX_SYLLABLES) {
                    part = IN_LINE;
                    size++;
                } else if (isBeat(sign) && part == IN_PHRASE && size < MAX_BEATS) {
                    size++;
                } else {
                    return i;
                }
            }
            return size > 0 ? NONE : length;
        }
    }

    /**
     * The ways to lay one line on one phrase. The line and the phrase are copied into rows of its own,
     * so that another stress or breath can be tried while nothing changes in the book.
     *
     * The place (syllable, beat) of a table tells about laying the syllables from this one on
     * on the beats from this one on.
     */
    private static final class Laying {
        static final int WIDTH = MAX_BEATS + 1;

        int breath = 1;
        private int drawn = 0;
        private int lost = 0;
        private int hurt = 0;
        private int syllables = 0;
        private int beats = 0;
        private final int[] stresses = new int[MAX_SYLLABLES];
        private final int[] kinds = new int[MAX_BEATS];
        // How many beats without a rest stand side by side from a beat on.
        private final int[] rows = new int[WIDTH];
        private final int[] costs = new int[(MAX_SYLLABLES + 1) * WIDTH];
        private final int[] ways = new int[(MAX_SYLLABLES + 1) * WIDTH];
        final int[] firstBeats = new int[MAX_SYLLABLES];
        final int[] heldBeats = new int[MAX_SYLLABLES];

        void take(Book book, int line, int phrase) {
            breath = book.settings[BREATH];
            drawn = book.settings[DRAWN];
            lost = book.settings[LOST];
            hurt = book.settings[HURT];
            syllables = book.syllableCounts[line];
            beats = book.beatCounts[phrase];
            System.arraycopy(book.stresses, line * MAX_SYLLABLES, stresses, 0, syllables);
            System.arraycopy(book.kinds, phrase * MAX_BEATS, kinds, 0, beats);
            rows[beats] = 0;
            for (int beat = beats - 1; beat >= 0; beat--) {
                rows[beat] = kinds[beat] == REST ? 0 : rows[beat + 1] + 1;
            }
        }

        void turnStress(int syllable) {
            stresses[syllable] = 1 - stresses[syllable];
        }

        /** NO_WAY if the line cannot be laid. All that is asked below is asked after this. */
        int leastCost() {
            costs[syllables * WIDTH + beats] = 0;
            for (int beat = beats - 1; beat >= 0; beat--) {
                costs[syllables * WIDTH + beat] = costOfFree(syllables, beat);
            }
            for (int syllable = syllables - 1; syllable >= 0; syllable--) {
                costs[syllable * WIDTH + beats] = NO_WAY;
                for (int beat = beats - 1; beat >= 0; beat--) {
                    int least = costOfFree(syllable, beat);
                    for (int held = 1; held <= mostHeld(beat); held++) {
                        least = Math.min(least, costOfHeld(syllable, beat, held));
                    }
                    costs[syllable * WIDTH + beat] = Math.min(least, NO_WAY);
                }
            }
            return costs[0];
        }

        private int mostHeld(int beat) {
            return Math.min(breath, rows[beat]);
        }

        private boolean hurts(int syllable, int beat) {
            return (stresses[syllable] == 1) != (kinds[beat] == STRONG);
        }

        /** The least cost if the beat stays free. */
        private int costOfFree(int syllable, int beat) {
            return costs[syllable * WIDTH + beat + 1] + (kinds[beat] == REST ? 0 : lost);
        }

        /** The least cost if the syllable begins on the beat and has as many beats. */
        private int costOfHeld(int syllable, int beat, int held) {
            return costs[(syllable + 1) * WIDTH + beat + held] + drawn * (held - 1)
                    + (hurts(syllable, beat) ? hurt : 0);
        }

        /** At most MAX_WAYS; all ways, or those with the least cost alone. */
        int countWays(boolean isLeast) {
            for (int beat = 0; beat <= beats; beat++) {
                ways[syllables * WIDTH + beat] = 1;
            }
            for (int syllable = syllables - 1; syllable >= 0; syllable--) {
                ways[syllable * WIDTH + beats] = 0;
                for (int beat = beats - 1; beat >= 0; beat--) {
                    ways[syllable * WIDTH + beat] = waysFrom(syllable, beat, isLeast);
                }
            }
            return ways[0];
        }

        private int waysFrom(int syllable, int beat, boolean isLeast) {
            int least = costs[syllable * WIDTH + beat];
            int sum = 0;
            if (!isLeast || costOfFree(syllable, beat) == least) {
                sum += ways[syllable * WIDTH + beat + 1];
            }
            for (int held = 1; held <= mostHeld(beat); held++) {
                if (!isLeast || costOfHeld(syllable, beat, held) == least) {
                    sum += ways[(syllable + 1) * WIDTH + beat + held];
                }
            }
            return Math.min(sum, MAX_WAYS);
        }

        /** Only for a line that can be laid. */
        void findBestWay() {
            int beat = 0;
            for (int syllable = 0; syllable < syllables; syllable++) {
                while (beat < beats && heldByBestWay(syllable, beat) == 0) {
                    beat++;
                }
                firstBeats[syllable] = beat;
                heldBeats[syllable] = beat < beats ? heldByBestWay(syllable, beat) : 0;
                beat += heldBeats[syllable];
            }
        }

        /** The fewest beats with which the syllable can begin here at the least cost, 0 if it cannot. */
        private int heldByBestWay(int syllable, int beat) {
            for (int held = 1; held <= mostHeld(beat); held++) {
                if (costOfHeld(syllable, beat, held) == costs[syllable * WIDTH + beat]) {
                    return held;
                }
            }
            return 0;
        }

        int freeBeats() {
            findBestWay();
            int free = 0;
            for (int beat = 0; beat < beats; beat++) {
                if (kinds[beat] != REST) {
                    free++;
                }
            }
            for (int syllable = 0; syllable < syllables; syllable++) {
                free -= heldBeats[syllable];
            }
            return free;
        }

        int hurtSyllables() {
            findBestWay();
            int hurting = 0;
            for (int syllable = 0; syllable < syllables; syllable++) {
                // Without a beat of its own there is no first one to look at.
                if (heldBeats[syllable] > 0 && hurts(syllable, firstBeats[syllable])) {
                    hurting++;
                }
            }
            return hurting;
        }
    }
}
