/** "Texts" and promises 3, 24, 25 and 26 at their edges. */
public final class TextEdgesTest {
    private static final int BAD_VALUE = BurdenTunes.BAD_VALUE, BAD_TEXT = BurdenTunes.BAD_TEXT;
    private static final int TOO_MANY = BurdenTunes.TOO_MANY, NONE = BurdenTunes.NONE;
    private static final String SIXTEEN = "XxxXxxXxxXxxXxxX", TWENTY_FOUR = "swwswwswwsww.wwswwsww.ws";

    public static void main(String[] args) {
        oneToEightCharacters();
        aCodeIs33To126();
        nothingAboveEightBitsThatAre0();
        theLeastAndTheGreatestLong();
        theLowestBitsAreTheLastCharacter();
        thePadIsFilledAndEmptied();
        whatCanStandAtAPlace();
        theFirstFaultOfSeveral();
        aFaultAtEachPlaceOfAFullPad();
        aTextThatEndsTooEarly();
        anEmptyText();
        syllablesByWhichThereAreTooMany();
        beatsByWhichThereAreTooMany();
        moreLinesThanThereIsRoomForAreNoFault();
        writeEmptiesThePadIfItWrites();
        Due.end();
    }

    private static BurdenTunes padOf(String text) {
        BurdenTunes x = new BurdenTunes();
        Due.put(x, text);
        return x;
    }

    private static void fault(String text, int want) {
        BurdenTunes x = padOf(text);
        Due.is("fault() of " + text, x.fault(), want);
        Due.is("fault() of " + text + " again", x.fault(), want);
        Due.is("the pad after fault() of " + text, x.count(9), text.length());
    }

    /** "characters: 1 to 8 characters"; "BAD_VALUE if there is no character". */
    private static void oneToEightCharacters() {
        Due.is("put of no character", new BurdenTunes().put(0), BAD_VALUE);
        for (int length = 1; length <= 8; length++) {
            String text = "xXxXxXxX".substring(0, length);
            BurdenTunes x = new BurdenTunes();
            Due.is("put of " + length, x.put(Due.number(text)), length);
            Due.is("put of 1 behind " + length, x.put('X'), length + 1);
            Due.is("write()", x.write(), 1);
            Due.lines("of two puts", x, text + "X");
        }
    }

    /** "A code is not 33 to 126": at each of the places of a number, alone and with others. */
    private static void aCodeIs33To126() {
        for (int length = 1; length <= 8; length++) {
            for (int place = 0; place < length; place++) {
                for (int code : new int[] {33, 34, 64, 125, 126}) {
                    Due.is("put of " + code + " at " + place, new BurdenTunes().put(with(length, place, code)), length);
                }
                for (int code : new int[] {1, 9, 31, 32, 127, 128, 161, 254, 255}) {
                    BurdenTunes x = new BurdenTunes();
                    Due.is("put of " + code + " at " + place + " of " + length, x.put(with(length, place, code)), BAD_VALUE);
                    Due.is("the pad then", x.count(9), 0);
                }
            }
        }
    }

    /** Eight bits x each, but the code at one place, counted from the lowest bits. */
    private static long with(int length, int place, int code) {
        long number = Due.number("xxxxxxxx".substring(0, length));
        return number & ~(255L << 8 * place) | (long) code << 8 * place;
    }

    /** "8 bits that are 0 mean that there are no more characters, and everything above them has to be 0, too." */
    private static void nothingAboveEightBitsThatAre0() {
        for (int length = 2; length <= 8; length++) {
            for (int place = 0; place < length - 1; place++) {
                BurdenTunes x = new BurdenTunes();
                Due.is("put with a gap at " + place + " of " + length, x.put(with(length, place, 0)), BAD_VALUE);
                Due.is("the pad then", x.count(9), 0);
            }
        }
        for (int bit = 16; bit < 64; bit++) {
            Due.is("put of x and bit " + bit, new BurdenTunes().put('x' | 1L << bit), BAD_VALUE);
        }
        for (int bit = 0; bit < 64; bit++) {
            Due.is("put of bit " + bit + " alone", new BurdenTunes().put(1L << bit), bit == 6 ? 1 : BAD_VALUE);
        }
    }

    /** The greatest and the least number: their lowest 8 bits are 255 and 0. */
    private static void theLeastAndTheGreatestLong() {
        for (long characters : new long[] {Long.MIN_VALUE, Long.MAX_VALUE, Long.MIN_VALUE + 'x', Long.MAX_VALUE - 255 + 'x', -1,
            Integer.MIN_VALUE, Integer.MAX_VALUE, -'x', (1L << 32) + 'x', 1L << 32}) {
            BurdenTunes x = new BurdenTunes();
            Due.is("put(" + characters + ")", x.put(characters), BAD_VALUE);
            Due.is("the pad then", x.count(9), 0);
        }
        Due.is("put of the greatest characters", new BurdenTunes().put(0x7E7E7E7E7E7E7E7EL), 8);
        Due.is("put of the least characters", new BurdenTunes().put(0x2121212121212121L), 8);
        Due.is("put of the greatest character", new BurdenTunes().put(0x7E), 1);
        Due.is("put of the least character", new BurdenTunes().put(0x21), 1);
    }

    /** "Its lowest 8 bits are the last character, the next 8 bits the one before, and so on"; put appends. */
    private static void theLowestBitsAreTheLastCharacter() {
        BurdenTunes x = new BurdenTunes();
        Due.is("put(xX)", x.put((long) 'x' << 8 | 'X'), 2);
        Due.is("put(;|)", x.put((long) ';' << 8 | '|'), 4);
        Due.is("put(s.w)", x.put((long) 's' << 16 | '.' << 8 | 'w'), 7);
        Due.is("write()", x.write(), 1);
        Due.lines("of three puts", x, "xX");
        Due.phrases("of three puts", x, "s.w");
        Due.is("put of eight", x.put(0x58787858787878L << 8 | 'X'), 8);
        x.write();
        Due.lines("of one put", x, "xX", "XxxXxxxX");
    }

    /** "Empties the pad, and returns the length that it had": for each length from 0 to 60. */
    private static void thePadIsFilledAndEmptied() {
        for (int length = 0; length <= 60; length++) {
            BurdenTunes x = padOf("~".repeat(length));
            Due.is("count(9) of " + length, x.count(9), length);
            Due.is("wipe() of " + length, x.wipe(), length);
            Due.is("count(9) after wipe", x.count(9), 0);
            Due.is("fault() after wipe", x.fault(), 0);
            Due.is("wipe() after wipe", x.wipe(), 0);
            Due.is("put after wipe", x.put('x'), 1);
            Due.is("fault() then", x.fault(), NONE);
        }
    }

    /** Each character at each kind of place: what is not named there is the fault. */
    private static void whatCanStandAtAPlace() {
        places("", "xX|", "xX");
        places("x", "xX;", "xX");
        places("X", "xX;", "xX");
        places("x;", "xX|", "xX");
        places("|s;", "xX|", "xX");
        places("|", "sw.", "sw.");
        places("x;|", "sw.", "sw.");
        places("|s", "sw.;", "sw.");
        places("|w", "sw.;", "sw.");
        places("|.", "sw.;", "sw.");
        places("x;|s", "sw.;", "sw.");
        places("|s;x", "xX;", "xX");
        places(SIXTEEN.substring(1), "xX;", "xX");
        places(SIXTEEN, ";", "");
        places("|s;" + SIXTEEN, ";", "");
        places("|" + TWENTY_FOUR.substring(1), "sw.;", "sw.");
        places("|" + TWENTY_FOUR, ";", "");
        places("x;|" + TWENTY_FOUR, ";", "");
    }

    /** What can follow, and which of it can be the end. */
    private static void places(String before, String next, String end) {
        for (char sign = 33; sign <= 126; sign++) {
            int here = before.length();
            int want = next.indexOf(sign) < 0 ? here : end.indexOf(sign) < 0 ? here + 1 : NONE;
            fault(before + sign, want);
            fault(before + sign + "~", next.indexOf(sign) < 0 ? here : here + 1);
        }
    }

    /** "The index of the first character that cannot stand at its place." */
    private static void theFirstFaultOfSeveral() {
        fault("~~", 0);
        fault("xs~", 1);
        fault("x;;;", 2);
        fault("|;|", 1);
        fault("xX|s~", 2);
        fault("|sx~;", 2);
        fault("x;~;", 2);
        fault(SIXTEEN + "xx", 16);
        fault(SIXTEEN + "x;" + SIXTEEN + "x", 16);
        fault("|" + TWENTY_FOUR + "ss;", 25);
        fault("x~;", 1);
        fault("x;|", 3);
    }

    /** The index can be 0 to 59, and 60 only if the text ends too early. */
    private static void aFaultAtEachPlaceOfAFullPad() {
        Due.is("the length of a full pad", States.SIXTY.length(), 60);
        fault(States.SIXTY, NONE);
        for (int place = 0; place < 60; place++) {
            fault(States.SIXTY.substring(0, place) + "~" + States.SIXTY.substring(place + 1), place);
        }
        fault(States.SIXTY.substring(0, 59) + ";", 60);
        fault(States.SIXTY.substring(0, 57) + "x;|", 60);
    }

    /** "If there is none and the text ends too early .., it is the length of the text." */
    private static void aTextThatEndsTooEarly() {
        for (int length = 0; length <= 60; length++) {
            String text = States.SIXTY.substring(0, length);
            boolean isEarly = text.isEmpty() || text.endsWith(";") || text.endsWith("|");
            fault(text, isEarly ? length : NONE);
            BurdenTunes x = padOf(text);
            if (isEarly) {
                Due.is("write() of " + text, x.write(), BAD_TEXT);
                Due.is("the pad after write() of " + text, x.count(9), length);
                Due.is("the changes after write() of " + text, x.count(10), 0);
            } else {
                Due.holds("write() of " + text, x.write() >= 1);
                Due.is("the pad after write() of " + text, x.count(9), 0);
                Due.is("the changes after write() of " + text, x.count(10), 1);
            }
        }
    }

    /** "(Also if it is empty.)" */
    private static void anEmptyText() {
        BurdenTunes x = new BurdenTunes();
        Due.is("fault() of a new object", x.fault(), 0);
        Due.is("write() of a new object", x.write(), BAD_TEXT);
        Due.write(x, "x");
        Due.is("fault() after write", x.fault(), 0);
        Due.is("write() after write", x.write(), BAD_TEXT);
        Due.put(x, "x");
        x.wipe();
        Due.is("fault() after wipe", x.fault(), 0);
        Due.is("write() after wipe", x.write(), BAD_TEXT);
        Due.is("lines then", x.count(0), 1);
        Due.is("changes then", x.count(10), 1);
    }

    /** "(Also of a syllable or beat by which there would be too many)": 16 are none too many, wherever the line stands. */
    private static void syllablesByWhichThereAreTooMany() {
        for (String before : new String[] {"", "x;", "|s;", SIXTEEN + ";"}) {
            fault(before + SIXTEEN, NONE);
            fault(before + SIXTEEN + ";x", NONE);
            fault(before + SIXTEEN + "x", before.length() + 16);
            fault(before + SIXTEEN + "X", before.length() + 16);
            fault(before + SIXTEEN + "x;x", before.length() + 16);
            fault(before + SIXTEEN + ";", before.length() + 17);
            BurdenTunes x = padOf(before + SIXTEEN + "x");
            Due.is("write() of 17 syllables", x.write(), BAD_TEXT);
            Due.is("lines then", x.count(0), 0);
        }
        fault("x".repeat(60), 16);
        fault("xxxxxxxx;xxxxxxxx;x", NONE);
    }

    private static void beatsByWhichThereAreTooMany() {
        for (String before : new String[] {"", "x;", "|s;", "|" + TWENTY_FOUR + ";"}) {
            fault(before + "|" + TWENTY_FOUR, NONE);
            fault(before + "|" + TWENTY_FOUR + ";|s", NONE);
            for (String sign : new String[] {"s", "w", "."}) {
                fault(before + "|" + TWENTY_FOUR + sign, before.length() + 25);
                fault(before + "|" + TWENTY_FOUR + sign + ";x", before.length() + 25);
            }
            fault(before + "|" + TWENTY_FOUR + ";", before.length() + 26);
            BurdenTunes x = padOf(before + "|" + TWENTY_FOUR + "s");
            Due.is("write() of 25 beats", x.write(), BAD_TEXT);
            Due.is("phrases then", x.count(1), 0);
        }
        fault("|" + "s".repeat(59), 25);
        fault("|" + ".".repeat(24), NONE);
    }

    /** The text tells only how many syllables and beats a part has, not how many parts there are. */
    private static void moreLinesThanThereIsRoomForAreNoFault() {
        String thirtyLines = "x;".repeat(29) + "x";
        fault(thirtyLines, NONE);
        Due.is("write() of 30 lines", padOf(thirtyLines).write(), TOO_MANY);
        String fifteenPhrases = "|s;".repeat(14) + "|s";
        fault(fifteenPhrases, NONE);
        Due.is("write() of 15 phrases", padOf(fifteenPhrases).write(), TOO_MANY);
    }

    /** "Writes the lines and phrases of the pad, in their order, and empties the pad"; an error leaves it as it is. */
    private static void writeEmptiesThePadIfItWrites() {
        BurdenTunes x = Due.with("x;x;x;x;x;x;x;x;x;x;x;x;x;x;x");
        Due.put(x, "XX;|s.;XXX");
        Due.is("write() of 17 lines", x.write(), TOO_MANY);
        Due.is("the pad then", x.count(9), 10);
        Due.is("phrases then", x.count(1), 0);
        x.dropLine(0);
        Due.is("write() where there is room", x.write(), 16);
        Due.is("the pad then", x.count(9), 0);
        Due.is("line 14", x.line(14, 0), 2);
        Due.is("line 15", x.line(15, 0), 3);
        Due.phrases("then", x, "s.");
        BurdenTunes y = padOf("|s;x;|w.;XX;|.;xX");
        Due.is("write() of lines and phrases by turns", y.write(), 3);
        Due.lines("in their order", y, "x", "XX", "xX");
        Due.phrases("in their order", y, "s", "w.", ".");
        Due.put(y, "x~");
        Due.is("write() with a fault", y.write(), BAD_TEXT);
        Due.is("the pad then", y.count(9), 2);
    }
}
