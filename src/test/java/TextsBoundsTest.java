/** The sentences under "Texts" and of promises 15 to 17 that name a bound: put, wipe, fault. */
final class TextsBoundsTest {
    private static final int BAD_VALUE = -2, BAD_TEXT = -3, TOO_MANY = -4, NONE = -6;
    private static final String FULL = "0" + "o".repeat(59);

    private TextsBoundsTest() {
    }

    public static void main(String[] args) {
        putNoCharacter();
        putCodesAtTheirBounds();
        putBitsAboveZero();
        putOneToEight();
        putInOrder();
        putUpToSixty();
        putInOrderOfErrors();
        wipeAtTheBounds();
        wipeIsNoChange();
        faultOfNothing();
        faultTooEarly();
        faultAtGates();
        faultAtLetters();
        faultAtNumbers();
        faultBetweenEvents();
        faultIsTheFirst();
        faultAtTheLastOfSixty();
        gatesAndLetters();
        numbersOfTicks();
        Due.end("TextsBoundsTest");
    }

    private static void putNoCharacter() {
        Due.about("Promise 15", "BAD_VALUE if there is no character");
        BeamTurnstiles x = new BeamTurnstiles();
        Due.due("put(0)", x.put(0), BAD_VALUE);
        Due.due("length", x.count(16), 0);
        x.put('o');
        Due.due("put(0)", x.put(0), BAD_VALUE);
        Due.due("length", x.count(16), 1);
    }

    private static void putCodesAtTheirBounds() {
        Due.about("Promise 15", "a code is not 33 to 126");
        long[] right = {33, 34, 125, 126};
        long[] wrong = {1, 31, 32, 127, 128, 160, 254, 255};
        for (int place = 0; place < 8; place++) {
            for (int length = place + 1; length <= 8; length++) {
                long others = Due.packed("oooooooo".substring(0, length)) & ~(255L << (8 * place));
                for (long code : right) {
                    BeamTurnstiles x = new BeamTurnstiles();
                    Due.due("code " + code + " at " + place, x.put(others | code << (8 * place)), length);
                }
                for (long code : wrong) {
                    BeamTurnstiles x = new BeamTurnstiles();
                    Due.due("code " + code + " at " + place, x.put(others | code << (8 * place)), BAD_VALUE);
                    Due.due("length", x.count(16), 0);
                }
            }
        }
        Due.due("-1", new BeamTurnstiles().put(-1), BAD_VALUE);
        Due.due("the least", new BeamTurnstiles().put(Long.MIN_VALUE), BAD_VALUE);
        Due.due("the greatest", new BeamTurnstiles().put(Long.MAX_VALUE), BAD_VALUE);
    }

    private static void putBitsAboveZero() {
        Due.about("Promise 15",
            "8 bits that are 0 mean that there are no more characters, and everything above them has to be 0, "
            + "too.");
        for (int place = 0; place < 7; place++) {
            long below = Due.packed("ooooooo".substring(0, place));
            for (int bit = 8 * (place + 1); bit < 64; bit++) {
                BeamTurnstiles x = new BeamTurnstiles();
                Due.due("bit " + bit + " above " + place, x.put(below | 1L << bit), BAD_VALUE);
                Due.due("length", x.count(16), 0);
            }
            Due.due("a character above", new BeamTurnstiles().put(below | (long) 'o' << (8 * place + 8)), BAD_VALUE);
        }
    }

    private static void putOneToEight() {
        Due.about("Promise 15", "1 to 8 characters");
        BeamTurnstiles x = new BeamTurnstiles();
        int length = 0;
        for (int more = 1; more <= 8; more++) {
            length += more;
            Due.due(more + " characters", x.put(Due.packed("!~!~!~!~".substring(8 - more))), length);
            Due.due("length", x.count(16), length);
        }
    }

    private static void putInOrder() {
        Due.about("Promise 15", "its lowest 8 bits are the last character, the next 8 bits the one before, and so on");
        // Each text is taken in this order alone.
        String[] texts = {".1;0o;.2", ".12;0oi", "5o;.98"};
        for (String text : texts) {
            BeamTurnstiles x = new BeamTurnstiles();
            Due.due("put " + text, x.put(Due.packed(text)), text.length());
            Due.due("fault of " + text, x.fault(), NONE);
        }
        BeamTurnstiles y = new BeamTurnstiles();
        y.put('.' << 8 | '2');
        y.put('1');
        y.read();
        Due.due("21, not 12", y.count(3), 21);
    }

    private static void putUpToSixty() {
        Due.about("Promise 15", "TOO_MANY if the pad would be longer than 60.");
        for (int more = 1; more <= 8; more++) {
            long characters = Due.packed("oooooooo".substring(8 - more));
            BeamTurnstiles x = new BeamTurnstiles();
            Due.putText(x, FULL.substring(0, 61 - more));
            Due.due("61 by " + more, x.put(characters), TOO_MANY);
            Due.due("length", x.count(16), 61 - more);
            Due.due("no fault of it", x.fault(), NONE);
            BeamTurnstiles y = new BeamTurnstiles();
            Due.putText(y, FULL.substring(0, 60 - more));
            Due.due("60 by " + more, y.put(characters), 60);
            Due.due("no more", y.put('o'), TOO_MANY);
            Due.due("eight more", y.put(Due.packed("oooooooo")), TOO_MANY);
            Due.due("length", y.count(16), 60);
        }
    }

    private static void putInOrderOfErrors() {
        Due.about("Promise 15",
            "BAD_VALUE if there is no character, a code is not 33 to 126, or a bit above 8 bits that are 0 is "
            + "not 0; TOO_MANY if the pad would be longer than 60.");
        BeamTurnstiles x = new BeamTurnstiles();
        Due.putText(x, FULL);
        long[] wrong = {0, 32, 127, 255, 0x6F006F, Due.packed("o\u007foooooo"), Long.MIN_VALUE, -1};
        for (long characters : wrong) {
            Due.due("put(" + characters + ")", x.put(characters), BAD_VALUE);
        }
        Due.due("put(33)", x.put(33), TOO_MANY);
        Due.due("length", x.count(16), 60);
        Due.due("the text is as it was", x.read(), 29);
    }

    private static void wipeAtTheBounds() {
        Due.about("Promise 16", "Empties the pad, and returns the length that it had.");
        for (int length = 0; length <= 60; length++) {
            BeamTurnstiles x = new BeamTurnstiles();
            Due.putText(x, FULL.substring(0, length));
            Due.due("wipe " + length, x.wipe(), length);
            Due.due("length", x.count(16), 0);
            Due.due("wipe again", x.wipe(), 0);
            Due.due("fault", x.fault(), 0);
        }
        BeamTurnstiles y = new BeamTurnstiles();
        for (int k = 0; k < 3; k++) {
            Due.putText(y, FULL);
            Due.due("full", y.put('o'), TOO_MANY);
            Due.due("wipe", y.wipe(), 60);
        }
    }

    private static void wipeIsNoChange() {
        Due.about("Promise 18", "Undoes the latest change: everything except the pad");
        BeamTurnstiles x = new BeamTurnstiles();
        x.pass(3);
        Due.putText(x, "0o");
        x.wipe();
        Due.due("one change", x.count(17), 1);
        Due.due("undo", x.undo(), 0);
        Due.due("it was pass()", x.count(3), 0);
        Due.due("the pad doesn't come back", x.count(16), 0);
    }

    private static void fault(String text, int due) {
        BeamTurnstiles x = new BeamTurnstiles();
        Due.putText(x, text);
        Due.due("fault of " + text, x.fault(), due);
        Due.due("read " + text, x.read() == BAD_TEXT ? 1 : 0, due == NONE ? 0 : 1);
    }

    private static void faultOfNothing() {
        Due.about("Texts", "(also if it is empty)");
        fault("", 0);
        BeamTurnstiles x = Due.after("0o");
        Due.due("behind read()", x.fault(), 0);
        Due.about("Promise 17", "Returns the fault of the pad, NONE if there is none.");
        fault("0o", NONE);
        fault(".1", NONE);
        fault(FULL, NONE);
    }

    private static void faultTooEarly() {
        Due.about("Texts",
            "if there is none and the text ends too early (also if it is empty), it is the length of the text.");
        fault("0", 1);
        fault(".", 1);
        fault("0o;", 3);
        fault(".1;", 3);
        fault(".12;", 4);
        fault("0o;5", 4);
        fault("0o;.", 4);
        fault("0ob;.99;5ii;", 12);
        fault(FULL.substring(0, 59) + ";", 60);
        fault(FULL.substring(0, 58) + ";.", 60);
        fault(FULL.substring(0, 58) + ";5", 60);
    }

    private static void faultAtGates() {
        Due.about("Texts", "a gate is a digit 0 to 5");
        fault("0o", NONE);
        fault("5o", NONE);
        fault("6o", 0);
        fault("9o", 0);
        fault("/o", 0);
        fault("-1o", 0);
        fault("0o;5i", NONE);
        fault("0o;6i", 3);
        fault("0o;/i", 3);
        fault("00o", 1);
        fault("05o", 1);
    }

    private static void faultAtLetters() {
        Due.about("Texts",
            "a letter o (its outer beam changes), i (its inner one) or b (both at once), one after the other");
        fault("0oib", NONE);
        fault("0n", 1);
        fault("0p", 1);
        fault("0h", 1);
        fault("0j", 1);
        fault("0a", 1);
        fault("0c", 1);
        fault("0O", 1);
        fault("0I", 1);
        fault("0B", 1);
        fault("0;", 1);
        fault("0.", 1);
        fault("0ooc", 3);
        fault("0oo1", 3);
        fault("0oo.", 3);
    }

    private static void faultAtNumbers() {
        Due.about("Texts", "a number is 1 to 99 without leading zeros");
        fault(".0", 1);
        fault(".1", NONE);
        fault(".9", NONE);
        fault(".10", NONE);
        fault(".99", NONE);
        fault(".100", 3);
        fault(".990", 3);
        fault(".00", 1);
        fault(".01", 1);
        fault(".09", 1);
        fault("./", 1);
        fault(".:", 1);
        fault(".1/", 2);
        fault(".1:", 2);
        fault(".-1", 1);
        fault(".+1", 1);
        fault("..1", 1);
        fault(".1.", 2);
        fault(".1o", 2);
        fault(".11o", 3);
        fault(".;", 1);
    }

    private static void faultBetweenEvents() {
        Due.about("Texts", "text = event { \";\" event }");
        fault(";", 0);
        fault(";0o", 0);
        fault("0o;;1o", 3);
        fault("0o,1o", 2);
        fault("0o:1o", 2);
        fault("0o1o", 2);
        fault(".1;;", 3);
        fault(".1.2", 2);
        fault("0o;1o", NONE);
        fault(".1;.2;0o;.3", NONE);
        fault("o", 0);
        fault("1", 1);
    }

    private static void faultIsTheFirst() {
        Due.about("Texts",
            "The fault is the index of the first character that cannot stand at its place when the text is "
            + "read from left to right");
        fault("xxxx", 0);
        fault("0xx;6o", 1);
        fault("0o;6o;.0;", 3);
        fault("0o;.0;6o;x", 4);
        BeamTurnstiles x = new BeamTurnstiles();
        Due.putText(x, "0o;");
        Due.due("too early", x.fault(), 3);
        x.put('x');
        Due.due("cannot stand there", x.fault(), 3);
        x.put('0');
        Due.due("the first one yet", x.fault(), 3);
    }

    private static void faultAtTheLastOfSixty() {
        Due.about("Texts", "The pad is a text of at most 60 characters");
        fault(FULL, NONE);
        fault(FULL.substring(0, 59) + "x", 59);
        fault(FULL.substring(0, 58) + "xo", 58);
        fault(FULL.substring(0, 57) + ";.1", NONE);
        fault(FULL.substring(0, 57) + ";.0", 59);
        fault(FULL.substring(0, 57) + ";5i", NONE);
    }

    private static void gatesAndLetters() {
        Due.about("Texts", "a letter o (its outer beam changes), i (its inner one) or b (both at once)");
        for (int gate = 0; gate < 6; gate++) {
            for (int beam = 0; beam < 3; beam++) {
                BeamTurnstiles x = Due.after("" + gate + "oib".charAt(beam));
                Due.due("gate " + gate + ", beam " + beam, x.gate(gate, 0), new int[] {1, 3, 2}[beam]);
                Due.due("that one alone", x.count(15), 1 << gate);
            }
        }
    }

    private static void numbersOfTicks() {
        Due.about("Texts", "a number is 1 to 99 without leading zeros: so many ticks go by.");
        for (int ticks = 1; ticks <= 99; ticks++) {
            Due.due("ticks by ." + ticks, Due.after("." + ticks).count(3), ticks);
        }
        Due.due("one after the other", Due.after(".99;.99;.1;.10").count(3), 209);
    }
}
