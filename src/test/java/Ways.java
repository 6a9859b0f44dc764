/**
 * All ways to lay a line on a phrase, one after the other, as the document tells them:
 * slow and plain, so that the program's answers can be held against it.
 */
final class Ways {
    private final String line;
    private final String phrase;
    private final int[] settings;
    private final int[] firsts;
    private final int[] lengths;
    int all = 0;
    int cheapest = 0;
    int leastCost = Integer.MAX_VALUE;
    int[] bestFirsts = null;
    int[] bestLengths = null;

    /** The line of x and X, the phrase of s, w and points, without its bar. */
    Ways(String line, String phrase, int... settings) {
        this.line = line;
        this.phrase = phrase;
        this.settings = settings;
        firsts = new int[line.length()];
        lengths = new int[line.length()];
        layFrom(0, 0);
    }

    private void layFrom(int syllable, int beat) {
        if (syllable == line.length()) {
            weigh();
            return;
        }
        for (int first = beat; first < phrase.length(); first++) {
            for (int length = 1; length <= settings[BurdenTunes.BREATH]; length++) {
                int end = first + length;
                if (end > phrase.length() || phrase.substring(first, end).contains(".")) {
                    break;
                }
                firsts[syllable] = first;
                lengths[syllable] = length;
                layFrom(syllable + 1, end);
            }
        }
    }

    private void weigh() {
        int cost = costOf(firsts, lengths);
        all++;
        if (cost < leastCost) {
            cheapest = 0;
        }
        if (cost <= leastCost) {
            cheapest++;
        }
        if (cost < leastCost || cost == leastCost && isBefore()) {
            leastCost = cost;
            bestFirsts = firsts.clone();
            bestLengths = lengths.clone();
        }
    }

    private boolean isBefore() {
        for (int syllable = 0; syllable < line.length(); syllable++) {
            if (firsts[syllable] != bestFirsts[syllable]) {
                return firsts[syllable] < bestFirsts[syllable];
            }
            if (lengths[syllable] != bestLengths[syllable]) {
                return lengths[syllable] < bestLengths[syllable];
            }
        }
        return false;
    }

    private int costOf(int[] begins, int[] counts) {
        int cost = settings[BurdenTunes.LOST] * free(counts) + settings[BurdenTunes.HURT] * hurting(begins);
        for (int count : counts) {
            cost += settings[BurdenTunes.DRAWN] * (count - 1);
        }
        return cost;
    }

    private int free(int[] counts) {
        int free = phrase.replace(".", "").length();
        for (int count : counts) {
            free -= count;
        }
        return free;
    }

    private int hurting(int[] begins) {
        int hurting = 0;
        for (int syllable = 0; syllable < line.length(); syllable++) {
            boolean isStrong = phrase.charAt(begins[syllable]) == 's';
            if (line.charAt(syllable) == 'X' && !isStrong || line.charAt(syllable) == 'x' && isStrong) {
                hurting++;
            }
        }
        return hurting;
    }

    boolean isLaid() {
        return all > 0;
    }

    int bestFree() {
        return free(bestLengths);
    }

    int bestHurting() {
        return hurting(bestFirsts);
    }
}
