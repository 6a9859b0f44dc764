/** Compares answers with those that are due, and helps to bring texts into an object. */
final class Due {
    private static int asked = 0;
    private static int wrong = 0;

    private Due() {
    }

    static void is(String call, long got, long want) {
        asked++;
        if (got != want) {
            wrong++;
            System.out.println(call + " answered " + got + ", due is " + want);
        }
    }

    static void holds(String what, boolean isSo) {
        is(what, isSo ? 1 : 0, 1);
    }

    /** Ends the program with exit code 1 if an answer was wrong. */
    static void end() {
        System.out.println(wrong == 0 ? "all " + asked + " answers are as due" : wrong + " of " + asked + " answers are not as due");
        if (wrong != 0 || asked == 0) {
            System.exit(1);
        }
    }

    /** The number by which put takes one to eight characters. */
    static long number(String characters) {
        long number = 0;
        for (int i = 0; i < characters.length(); i++) {
            number = number << 8 | characters.charAt(i);
        }
        return number;
    }

    static void put(BurdenTunes x, String text) {
        for (int i = 0; i < text.length(); i += 8) {
            int end = Math.min(i + 8, text.length());
            is("put(" + text.substring(i, end) + ")", x.put(number(text.substring(i, end))), x.count(9));
        }
    }

    /** Writes a text that has no fault, and for which there is room. */
    static void write(BurdenTunes x, String text) {
        put(x, text);
        int lines = x.count(0);
        for (String part : text.split(";")) {
            lines += part.startsWith("|") ? 0 : 1;
        }
        is("write() of " + text, x.write(), lines);
    }

    static BurdenTunes with(String... texts) {
        BurdenTunes x = new BurdenTunes();
        for (String text : texts) {
            write(x, text);
        }
        return x;
    }

    /** A line as it stands in the object: x and X. */
    static String lineOf(BurdenTunes x, int line) {
        StringBuilder text = new StringBuilder();
        for (int syllable = 0; syllable < x.line(line, 0); syllable++) {
            text.append(x.isStressed(line, syllable) == 1 ? 'X' : 'x');
        }
        return text.toString();
    }

    /** A phrase as it stands in the object: s, w and a point, without the bar. */
    static String phraseOf(BurdenTunes x, int phrase) {
        StringBuilder text = new StringBuilder();
        for (int beat = 0; beat < x.phrase(phrase, 0); beat++) {
            text.append(".ws".charAt(x.kindOf(phrase, beat)));
        }
        return text.toString();
    }

    static void lines(String when, BurdenTunes x, String... want) {
        is("the number of lines " + when, x.count(0), want.length);
        for (int line = 0; line < want.length; line++) {
            holds("line " + line + " is " + want[line] + " " + when, lineOf(x, line).equals(want[line]));
        }
    }

    static void phrases(String when, BurdenTunes x, String... want) {
        is("the number of phrases " + when, x.count(1), want.length);
        for (int phrase = 0; phrase < want.length; phrase++) {
            holds("phrase " + phrase + " is " + want[phrase] + " " + when, phraseOf(x, phrase).equals(want[phrase]));
        }
    }

    static void ballad(String when, BurdenTunes x, int... want) {
        row("the ballad " + when, x, false, want);
    }

    static void tune(String when, BurdenTunes x, int... want) {
        row("the tune " + when, x, true, want);
    }

    private static void row(String name, BurdenTunes x, boolean isTune, int... want) {
        is("the length of " + name, x.count(isTune ? 3 : 2), want.length);
        for (int place = 0; place < want.length; place++) {
            is("place " + place + " of " + name, x.at(isTune, place), want[place]);
        }
        is("the place behind " + name, x.at(isTune, want.length), BurdenTunes.NO_SUCH);
    }
}
