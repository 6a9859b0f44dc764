import java.util.ArrayDeque;
import java.util.ArrayList;
import java.util.Arrays;
import java.util.Collections;
import java.util.Deque;
import java.util.HashMap;
import java.util.List;
import java.util.Map;

/**
 * The document once more, written otherwise than the class: states are copied lists of texts,
 * the pad is read by regular expressions, and the ways are counted by their costs.
 */
final class Model {
    private static final int NO_SUCH = -1, BAD_VALUE = -2, BAD_TEXT = -3, TOO_MANY = -4, NOT_POSSIBLE = -5, NONE = -6;
    private static final String PART = "([xX]{1,16}|\\|[sw.]{1,24})";
    private static final String EARLY_PART = "([xX]{0,16}|\\|[sw.]{0,24})";
    private static final int[][] RANGES = {{1, 8}, {0, 9}, {0, 9}, {0, 20}};

    private static final class State {
        int[] settings = {3, 1, 3, 7};
        List<String> lines = new ArrayList<>();
        List<String> phrases = new ArrayList<>();
        List<Integer> ballad = new ArrayList<>();
        List<Integer> tune = new ArrayList<>();

        State copy() {
            State copy = new State();
            copy.settings = settings.clone();
            copy.lines.addAll(lines);
            copy.phrases.addAll(phrases);
            copy.ballad.addAll(ballad);
            copy.tune.addAll(tune);
            return copy;
        }
    }

    private State now = new State();
    private String pad = "";
    private final Deque<State> history = new ArrayDeque<>();
    private final State[] slots = new State[2];

    private void change() {
        history.addLast(now.copy());
        if (history.size() > 6) {
            history.removeFirst();
        }
    }

    private static boolean isIn(int number, List<?> row) {
        return number >= 0 && number < row.size();
    }

    private static boolean isIn(int number, List<String> row, int place) {
        return isIn(number, row) && place >= 0 && place < row.get(number).length();
    }

    int set(int setting, int value) {
        if (setting < 0 || setting > 3 || value < RANGES[setting][0] || value > RANGES[setting][1]) {
            return BAD_VALUE;
        }
        change();
        int previous = now.settings[setting];
        now.settings[setting] = value;
        return previous;
    }

    int write() {
        if (fault() != NONE) {
            return BAD_TEXT;
        }
        State next = now.copy();
        for (String part : pad.split(";")) {
            if (part.startsWith("|")) {
                next.phrases.add(part.substring(1));
            } else {
                next.lines.add(part);
            }
        }
        if (next.lines.size() > 16 || next.phrases.size() > 8) {
            return TOO_MANY;
        }
        change();
        now = next;
        pad = "";
        return now.lines.size();
    }

    private static void drop(List<Integer> row, int number) {
        row.removeAll(List.of(number));
        row.replaceAll(other -> other > number ? other - 1 : other);
    }

    int dropLine(int line) {
        if (!isIn(line, now.lines)) {
            return NO_SUCH;
        }
        change();
        now.lines.remove(line);
        drop(now.ballad, line);
        return now.ballad.size();
    }

    int dropPhrase(int phrase) {
        if (!isIn(phrase, now.phrases)) {
            return NO_SUCH;
        }
        change();
        now.phrases.remove(phrase);
        drop(now.tune, phrase);
        return now.tune.size();
    }

    private static char replace(List<String> row, int number, int place, char sign) {
        StringBuilder text = new StringBuilder(row.get(number));
        char previous = text.charAt(place);
        text.setCharAt(place, sign);
        row.set(number, text.toString());
        return previous;
    }

    int stress(int line, int syllable, boolean isStressed) {
        if (!isIn(line, now.lines, syllable)) {
            return NO_SUCH;
        }
        change();
        return replace(now.lines, line, syllable, isStressed ? 'X' : 'x') == 'X' ? 1 : 0;
    }

    int beat(int phrase, int beat, int kind) {
        if (!isIn(phrase, now.phrases, beat)) {
            return NO_SUCH;
        }
        if (kind < 0 || kind > 2) {
            return BAD_VALUE;
        }
        change();
        return ".ws".indexOf(replace(now.phrases, phrase, beat, ".ws".charAt(kind)));
    }

    int sing(int line) {
        if (!isIn(line, now.lines)) {
            return NO_SUCH;
        }
        if (now.ballad.size() == 40) {
            return TOO_MANY;
        }
        change();
        now.ballad.add(line);
        return now.ballad.size();
    }

    int play(int phrase) {
        if (!isIn(phrase, now.phrases)) {
            return NO_SUCH;
        }
        if (now.tune.size() == 8) {
            return TOO_MANY;
        }
        change();
        now.tune.add(phrase);
        return now.tune.size();
    }

    int verse(int first, int last, int burden) {
        if (!isIn(first, now.lines) || !isIn(last, now.lines) || !isIn(burden, now.lines)) {
            return NO_SUCH;
        }
        if (last < first) {
            return BAD_VALUE;
        }
        List<Integer> added = new ArrayList<>();
        for (int line = first; line <= last; line++) {
            added.add(line);
            added.add(burden);
        }
        if (now.ballad.size() + added.size() > 40) {
            return TOO_MANY;
        }
        change();
        now.ballad.addAll(added);
        return now.ballad.size();
    }

    int clear(boolean isTune) {
        change();
        List<Integer> row = isTune ? now.tune : now.ballad;
        int previous = row.size();
        row.clear();
        return previous;
    }

    int line(int line, int what) {
        if (!isIn(line, now.lines)) {
            return NO_SUCH;
        }
        String text = now.lines.get(line);
        int times = Collections.frequency(now.ballad, line);
        switch (what) {
            case 0: return text.length();
            case 1: return text.replace("x", "").length();
            case 2: return times;
            case 3: return Math.min(times / 2, 1);
            case 4: return cheapestPhrase(text);
            default: return BAD_VALUE;
        }
    }

    private int cheapestPhrase(String line) {
        int best = NONE;
        for (int phrase = now.phrases.size() - 1; phrase >= 0; phrase--) {
            int cost = leastCost(line, now.phrases.get(phrase), now.settings);
            if (cost != NONE && (best == NONE || cost <= leastCost(line, now.phrases.get(best), now.settings))) {
                best = phrase;
            }
        }
        return best;
    }

    int phrase(int phrase, int what) {
        if (!isIn(phrase, now.phrases)) {
            return NO_SUCH;
        }
        String text = now.phrases.get(phrase);
        switch (what) {
            case 0: return text.length();
            case 1: return text.replaceAll("[^s]", "").length();
            case 2: return text.replaceAll("[^w]", "").length();
            case 3: return text.replaceAll("[^.]", "").length();
            case 4: return Collections.frequency(now.tune, phrase);
            case 5: return Arrays.stream(text.split("\\.")).mapToInt(String::length).max().orElse(0);
            default: return BAD_VALUE;
        }
    }

    int isStressed(int line, int syllable) {
        return isIn(line, now.lines, syllable) ? "xX".indexOf(now.lines.get(line).charAt(syllable)) : NO_SUCH;
    }

    int kindOf(int phrase, int beat) {
        return isIn(phrase, now.phrases, beat) ? ".ws".indexOf(now.phrases.get(phrase).charAt(beat)) : NO_SUCH;
    }

    int count(int what) {
        switch (what) {
            case 0: return now.lines.size();
            case 1: return now.phrases.size();
            case 2: return now.ballad.size();
            case 3: return now.tune.size();
            case 4: return (int) now.ballad.stream().distinct().filter(line -> Collections.frequency(now.ballad, line) > 1).count();
            case 5: case 6: case 7: case 8: return now.settings[what - 5];
            case 9: return pad.length();
            case 10: return history.size();
            default: return BAD_VALUE;
        }
    }

    int at(boolean isTune, int place) {
        List<Integer> row = isTune ? now.tune : now.ballad;
        return isIn(place, row) ? row.get(place) : NO_SUCH;
    }

    int fit(int line, int phrase, int what) {
        if (!isIn(line, now.lines) || !isIn(phrase, now.phrases)) {
            return NO_SUCH;
        }
        if (what < 0 || what > 4) {
            return BAD_VALUE;
        }
        String syllables = now.lines.get(line);
        String beats = now.phrases.get(phrase);
        Map<Integer, Long> ways = waysByCost(syllables, beats, now.settings);
        if (what == 1) {
            return (int) Math.min(1000000, ways.values().stream().mapToLong(Long::longValue).sum());
        }
        int least = leastCost(syllables, beats, now.settings);
        if (least == NONE) {
            return what == 2 ? 0 : NONE;
        }
        if (what == 0) {
            return least;
        }
        if (what == 2) {
            return (int) Math.min(1000000, ways.get(least));
        }
        int[] best = bestWay(syllables, beats);
        int free = beats.replace(".", "").length();
        int hurting = 0;
        for (int i = 0; i < syllables.length(); i++) {
            free -= best[2 * i + 1];
            hurting += hurts(syllables.charAt(i), beats.charAt(best[2 * i])) ? 1 : 0;
        }
        return what == 3 ? free : hurting;
    }

    private static boolean hurts(char syllable, char beat) {
        return syllable == 'X' ? beat != 's' : beat == 's';
    }

    /** How many ways there are of each cost, by reading the phrase from its first beat on. */
    private static Map<Integer, Long> waysByCost(String line, String phrase, int[] settings) {
        List<List<Map<Integer, Long>>> reached = new ArrayList<>();
        for (int beat = 0; beat <= phrase.length(); beat++) {
            List<Map<Integer, Long>> row = new ArrayList<>();
            for (int laid = 0; laid <= line.length(); laid++) {
                row.add(new HashMap<>());
            }
            reached.add(row);
        }
        reached.get(0).get(0).put(0, 1L);
        for (int beat = 0; beat < phrase.length(); beat++) {
            for (int laid = 0; laid <= line.length(); laid++) {
                Map<Integer, Long> here = reached.get(beat).get(laid);
                add(reached.get(beat + 1).get(laid), here, phrase.charAt(beat) == '.' ? 0 : settings[2]);
                for (int held = 1; laid < line.length() && held <= settings[0]; held++) {
                    if (beat + held > phrase.length() || phrase.charAt(beat + held - 1) == '.') {
                        break;
                    }
                    int cost = (held - 1) * settings[1] + (hurts(line.charAt(laid), phrase.charAt(beat)) ? settings[3] : 0);
                    add(reached.get(beat + held).get(laid + 1), here, cost);
                }
            }
        }
        return reached.get(phrase.length()).get(line.length());
    }

    private static void add(Map<Integer, Long> ways, Map<Integer, Long> more, int cost) {
        more.forEach((before, number) -> ways.merge(before + cost, number, Long::sum));
    }

    private static int leastCost(String line, String phrase, int[] settings) {
        return waysByCost(line, phrase, settings).keySet().stream().mapToInt(Integer::intValue).min().orElse(NONE);
    }

    /** First beat and number of beats of each syllable: each is the first choice that leaves the least cost possible. */
    private int[] bestWay(String line, String phrase) {
        int[] best = new int[2 * line.length()];
        int least = leastCost(line, phrase, now.settings);
        int spent = 0;
        int begin = 0;
        for (int syllable = 0; syllable < line.length(); syllable++) {
            int[] choice = choose(line.substring(syllable), phrase, begin, least - spent);
            best[2 * syllable] = choice[0];
            best[2 * syllable + 1] = choice[1];
            spent += choice[2];
            begin = choice[0] + choice[1];
        }
        return best;
    }

    /** First beat, number of beats, and cost, for the first syllable of a line. */
    private int[] choose(String line, String phrase, int begin, int least) {
        for (int first = begin; first < phrase.length(); first++) {
            int lost = phrase.substring(begin, first).replace(".", "").length() * now.settings[2];
            for (int held = 1; held <= now.settings[0] && first + held <= phrase.length(); held++) {
                if (phrase.charAt(first + held - 1) == '.') {
                    break;
                }
                int cost = lost + (held - 1) * now.settings[1] + (hurts(line.charAt(0), phrase.charAt(first)) ? now.settings[3] : 0);
                int rest = leastCost(line.substring(1), phrase.substring(first + held), now.settings);
                if (rest != NONE && cost + rest == least) {
                    return new int[] {first, held, cost};
                }
            }
        }
        throw new IllegalStateException("no best way of " + line + " on " + phrase);
    }

    int lies(int line, int phrase, int syllable, int what) {
        if (!isIn(line, now.lines, syllable) || !isIn(phrase, now.phrases)) {
            return NO_SUCH;
        }
        if (what != 0 && what != 1) {
            return BAD_VALUE;
        }
        String syllables = now.lines.get(line);
        String beats = now.phrases.get(phrase);
        return leastCost(syllables, beats, now.settings) == NONE ? NONE : bestWay(syllables, beats)[2 * syllable + what];
    }

    int whole(int what) {
        if (what < 0 || what > 3) {
            return BAD_VALUE;
        }
        if (now.tune.isEmpty()) {
            return NOT_POSSIBLE;
        }
        List<Integer> costs = new ArrayList<>();
        int beats = 0;
        for (int k = 0; k < now.ballad.size(); k++) {
            String phrase = now.phrases.get(now.tune.get(k % now.tune.size()));
            beats += phrase.length();
            costs.add(leastCost(now.lines.get(now.ballad.get(k)), phrase, now.settings));
        }
        int unlaid = Collections.frequency(costs, NONE);
        switch (what) {
            case 0: return costs.stream().mapToInt(Integer::intValue).sum() - unlaid * NONE;
            case 1: return unlaid;
            case 2: return unlaid == costs.size() ? NONE : costs.indexOf(Collections.max(costs));
            default: return beats;
        }
    }

    int bestPhrase() {
        int best = NONE;
        long least = 0;
        for (int phrase = 0; phrase < now.phrases.size(); phrase++) {
            long weight = 0;
            for (int line : now.ballad) {
                int cost = leastCost(now.lines.get(line), now.phrases.get(phrase), now.settings);
                weight += cost == NONE ? 1000000000L : cost;
            }
            if (best == NONE || weight < least) {
                best = phrase;
                least = weight;
            }
        }
        return best;
    }

    int bestChange(int line, int phrase, int what) {
        if (!isIn(line, now.lines) || !isIn(phrase, now.phrases)) {
            return NO_SUCH;
        }
        if (what != 0 && what != 1) {
            return BAD_VALUE;
        }
        List<Integer> costs = new ArrayList<>();
        String syllables = now.lines.get(line);
        for (int i = 0; i < syllables.length(); i++) {
            String other = syllables.substring(0, i) + (syllables.charAt(i) == 'x' ? 'X' : 'x') + syllables.substring(i + 1);
            costs.add(leastCost(other, now.phrases.get(phrase), now.settings));
        }
        int least = Collections.min(costs);
        return least == NONE ? NONE : what == 0 ? costs.indexOf(least) : least;
    }

    int enoughBreath(int line, int phrase) {
        if (!isIn(line, now.lines) || !isIn(phrase, now.phrases)) {
            return NO_SUCH;
        }
        List<Integer> costs = new ArrayList<>();
        for (int breath = 1; breath <= 8; breath++) {
            int[] settings = now.settings.clone();
            settings[0] = breath;
            costs.add(leastCost(now.lines.get(line), now.phrases.get(phrase), settings));
        }
        int least = Collections.min(costs);
        return least == NONE ? NONE : costs.indexOf(least) + 1;
    }

    int put(long characters) {
        StringBuilder text = new StringBuilder();
        for (int i = 56; i >= 0; i -= 8) {
            text.append((char) (characters >>> i & 255));
        }
        String signs = text.toString().replaceFirst("^\0+", "");
        if (!signs.matches("[!-~]+")) {
            return BAD_VALUE;
        }
        if (pad.length() + signs.length() > 60) {
            return TOO_MANY;
        }
        pad += signs;
        return pad.length();
    }

    int wipe() {
        int previous = pad.length();
        pad = "";
        return previous;
    }

    int fault() {
        for (int length = 1; length <= pad.length(); length++) {
            if (!pad.substring(0, length).matches("(" + PART + ";)*" + EARLY_PART)) {
                return length - 1;
            }
        }
        return pad.matches("(" + PART + ";)*" + PART) ? NONE : pad.length();
    }

    int undo() {
        if (history.isEmpty()) {
            return NOT_POSSIBLE;
        }
        now = history.removeLast();
        return history.size();
    }

    int save(int slot) {
        if (slot != 0 && slot != 1) {
            return BAD_VALUE;
        }
        slots[slot] = now.copy();
        return now.lines.size();
    }

    int restore(int slot) {
        if (slot != 0 && slot != 1) {
            return BAD_VALUE;
        }
        if (slots[slot] == null) {
            return NOT_POSSIBLE;
        }
        change();
        now = slots[slot].copy();
        return now.lines.size();
    }
}
