import java.util.Random;

/** Long runs of calls, the same ones every time, each answer held against the model's. */
public final class RandomRunsTest {
    private static final int RUNS = 400, CALLS = 512;

    private final Random random;
    private final int run;
    private final BurdenTunes x = new BurdenTunes();
    private final Model model = new Model();
    private String toPut = "";

    private RandomRunsTest(int run) {
        this.run = run;
        random = new Random(run);
    }

    public static void main(String[] args) {
        for (int run = 0; run < RUNS; run++) {
            RandomRunsTest test = new RandomRunsTest(run);
            for (int call = 0; call < CALLS; call++) {
                test.call();
            }
        }
        Due.end();
    }

    private void due(String call, long got, long want) {
        Due.is("run " + run + ": " + call, got, want);
    }

    /** Mostly a number below the bound, now and then one beside it or far away. */
    private int number(int bound) {
        switch (random.nextInt(40)) {
            case 0: return -1;
            case 1: return bound;
            case 2: return random.nextBoolean() ? Integer.MIN_VALUE : Integer.MAX_VALUE;
            default: return bound < 1 ? 0 : random.nextInt(bound);
        }
    }

    private int aLine() {
        return number(model.count(0));
    }

    private int aPhrase() {
        return number(model.count(1));
    }

    private int syllableOf(int line) {
        return number(Math.max(model.line(line, 0), 0));
    }

    private int beatOf(int phrase) {
        return number(Math.max(model.phrase(phrase, 0), 0));
    }

    private String part(boolean isLong) {
        StringBuilder part = new StringBuilder();
        if (random.nextInt(5) < 3) {
            for (int left = 1 + random.nextInt(isLong ? 17 : 6); left > 0; left--) {
                part.append("xxX".charAt(random.nextInt(3)));
            }
        } else {
            part.append('|');
            for (int left = 1 + random.nextInt(isLong ? 25 : 10); left > 0; left--) {
                part.append("swwsw.".charAt(random.nextInt(6)));
            }
        }
        return part.toString();
    }

    private String text() {
        StringBuilder text = new StringBuilder(part(random.nextInt(3) == 0));
        for (int more = random.nextInt(4); more > 0; more--) {
            text.append(';').append(part(random.nextInt(3) == 0));
        }
        if (random.nextInt(8) == 0) {
            text.setCharAt(random.nextInt(text.length()), "xXsw.|;a~".charAt(random.nextInt(9)));
        }
        return text.toString();
    }

    private void call() {
        if (!toPut.isEmpty()) {
            int end = Math.min(toPut.length(), 1 + random.nextInt(8));
            putNumber(Due.number(toPut.substring(0, end)));
            toPut = toPut.substring(end);
        } else if (model.count(9) > 0 && random.nextInt(3) > 0) {
            pad();
        } else if (random.nextInt(10) < 4) {
            change();
        } else if (random.nextInt(10) < 3) {
            ask();
        } else if (random.nextInt(10) < 7) {
            lay();
        } else {
            keep();
        }
    }

    private void putNumber(long characters) {
        due("put(" + characters + ")", x.put(characters), model.put(characters));
    }

    private void pad() {
        switch (random.nextInt(6)) {
            case 0: due("fault()", x.fault(), model.fault()); break;
            case 1: due("wipe()", x.wipe(), model.wipe()); break;
            case 2: putNumber(random.nextLong() >>> random.nextInt(64)); break;
            default:
                due("write()", x.write(), model.write());
                if (random.nextInt(3) == 0) {
                    due("wipe()", x.wipe(), model.wipe());
                }
        }
    }

    private void change() {
        int line = aLine();
        int phrase = aPhrase();
        boolean flag = random.nextBoolean();
        switch (random.nextInt(16)) {
            case 0: {
                int setting = number(4);
                int value = number(new int[] {9, 10, 10, 21, 3}[Math.floorMod(setting, 5)]);
                due("set(" + setting + ", " + value + ")", x.set(setting, value), model.set(setting, value));
                break;
            }
            case 1: case 2: case 3: toPut = text(); break;
            case 4: due("dropLine(" + line + ")", x.dropLine(line), model.dropLine(line)); break;
            case 5: due("dropPhrase(" + phrase + ")", x.dropPhrase(phrase), model.dropPhrase(phrase)); break;
            case 6: {
                int syllable = syllableOf(line);
                due("stress(" + line + ", " + syllable + ", " + flag + ")", x.stress(line, syllable, flag), model.stress(line, syllable, flag));
                break;
            }
            case 7: {
                int beat = beatOf(phrase);
                int kind = number(3);
                due("beat(" + phrase + ", " + beat + ", " + kind + ")", x.beat(phrase, beat, kind), model.beat(phrase, beat, kind));
                break;
            }
            case 8: case 9: case 10: due("sing(" + line + ")", x.sing(line), model.sing(line)); break;
            case 11: case 12: due("play(" + phrase + ")", x.play(phrase), model.play(phrase)); break;
            case 13: case 14: {
                int last = aLine();
                int burden = aLine();
                due("verse(" + line + ", " + last + ", " + burden + ")", x.verse(line, last, burden), model.verse(line, last, burden));
                break;
            }
            default:
                if (random.nextInt(4) == 0) {
                    due("clear(" + flag + ")", x.clear(flag), model.clear(flag));
                }
        }
    }

    private void ask() {
        int line = aLine();
        int phrase = aPhrase();
        int what = number(6);
        switch (random.nextInt(6)) {
            case 0: due("line(" + line + ", " + what + ")", x.line(line, what), model.line(line, what)); break;
            case 1: due("phrase(" + phrase + ", " + what + ")", x.phrase(phrase, what), model.phrase(phrase, what)); break;
            case 2: {
                int syllable = syllableOf(line);
                due("isStressed(" + line + ", " + syllable + ")", x.isStressed(line, syllable), model.isStressed(line, syllable));
                break;
            }
            case 3: {
                int beat = beatOf(phrase);
                due("kindOf(" + phrase + ", " + beat + ")", x.kindOf(phrase, beat), model.kindOf(phrase, beat));
                break;
            }
            case 4: {
                int number = number(11);
                due("count(" + number + ")", x.count(number), model.count(number));
                break;
            }
            default: {
                boolean isTune = random.nextBoolean();
                int place = number(model.count(isTune ? 3 : 2));
                due("at(" + isTune + ", " + place + ")", x.at(isTune, place), model.at(isTune, place));
            }
        }
    }

    private void lay() {
        int line = aLine();
        int phrase = aPhrase();
        String both = line + ", " + phrase;
        switch (random.nextInt(9)) {
            case 0: case 1: case 2: {
                int what = number(5);
                due("fit(" + both + ", " + what + ")", x.fit(line, phrase, what), model.fit(line, phrase, what));
                break;
            }
            case 3: case 4: {
                int syllable = syllableOf(line);
                int what = number(2);
                due("lies(" + both + ", " + syllable + ", " + what + ")", x.lies(line, phrase, syllable, what), model.lies(line, phrase, syllable, what));
                break;
            }
            case 5: {
                int what = number(4);
                due("whole(" + what + ")", x.whole(what), model.whole(what));
                break;
            }
            case 6: due("bestPhrase()", x.bestPhrase(), model.bestPhrase()); break;
            case 7: {
                int what = number(2);
                due("bestChange(" + both + ", " + what + ")", x.bestChange(line, phrase, what), model.bestChange(line, phrase, what));
                break;
            }
            default: due("enoughBreath(" + both + ")", x.enoughBreath(line, phrase), model.enoughBreath(line, phrase));
        }
    }

    private void keep() {
        int slot = number(2);
        switch (random.nextInt(5)) {
            case 0: due("save(" + slot + ")", x.save(slot), model.save(slot)); break;
            case 1: due("restore(" + slot + ")", x.restore(slot), model.restore(slot)); break;
            default: due("undo()", x.undo(), model.undo());
        }
    }
}
