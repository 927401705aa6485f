import java.util.ArrayList;
import java.util.List;
import java.util.regex.Matcher;
import java.util.regex.Pattern;

/** Promises 15 to 17: put, wipe, fault; and the texts that they are about. */
final class TextsTest {
    private static final int BAD_VALUE = -2, BAD_TEXT = -3, TOO_MANY = -4, NONE = -6;

    private TextsTest() {
    }

    public static void main(String[] args) {
        putting();
        puttingUpToEight();
        puttingWrongly();
        puttingTooMany();
        wiping();
        faultless();
        faults();
        allShortTexts();
        faultAtEveryCharacter();
        notAChange();
        Due.end("TextsTest");
    }

    private static void putting() {
        Due.about("Promise 15",
            "Appends characters to the pad. They are given as a number: its lowest 8 bits are the last "
            + "character, the next 8 bits the one before, and so on");
        BeamTurnstiles x = new BeamTurnstiles();
        Due.due("one", x.put('!'), 1);
        Due.due("two", x.put(Due.packed("~~")), 3);
        Due.due("eight", x.put(Due.packed("!~!~!~!~")), 11);
        Due.due("length", x.count(16), 11);
        x.wipe();
        // In this order alone the text has no fault.
        Due.due("order", x.put(Due.packed("0oi;.12;")), 8);
        Due.due("order", x.put(Due.packed("0oi")), 11);
        Due.due("fault", x.fault(), NONE);
        Due.due("read", x.read(), 1);
        Due.due("ticks", x.count(3), 12);
    }

    private static void puttingUpToEight() {
        Due.about("Promise 15", "characters: 1 to 8 characters Returns the length of the pad then");
        for (int number = 1; number <= 8; number++) {
            BeamTurnstiles x = new BeamTurnstiles();
            for (int times = 1; times * number <= 60; times++) {
                Due.due(number + " characters", x.put(Due.packed("~!~!~!~!".substring(0, number))), times * number);
                Due.due("length", x.count(16), times * number);
            }
        }
        Due.due("no character", new BeamTurnstiles().put(0), BAD_VALUE);
    }

    private static void puttingWrongly() {
        Due.about("Promise 15",
            "BAD_VALUE if there is no character, a code is not 33 to 126, or a bit above 8 bits that are 0 is "
            + "not 0");
        BeamTurnstiles x = new BeamTurnstiles();
        x.put('0');
        long[] wrong = {0, 32, 127, 1, 255, 0x2000, 0x3000, 0x300030, 0x3000000000000030L, 0x0100000000000000L,
            Due.packed("0 "), Due.packed(" 0"), Due.packed("\u007f0"), Long.MIN_VALUE, Long.MAX_VALUE, -1,
            Due.packed("oioioioi") | Long.MIN_VALUE, Due.packed("oioioioi") & ~0xFFL, 0x8000000000000030L};
        for (long characters : wrong) {
            Due.due("put " + Long.toHexString(characters), x.put(characters), BAD_VALUE);
        }
        Due.due("nothing appended", x.count(16), 1);
        for (int code = 0; code < 256; code++) {
            int due = code >= 33 && code <= 126 ? 1 : BAD_VALUE;
            Due.due("put code " + code, new BeamTurnstiles().put(code), due);
        }
    }

    private static void puttingTooMany() {
        Due.about("Promise 15", "TOO_MANY if the pad would be longer than 60.");
        BeamTurnstiles x = new BeamTurnstiles();
        Due.putText(x, "0" + "o".repeat(54));
        Due.due("61", x.put(Due.packed("oooooo")), TOO_MANY);
        Due.due("55", x.count(16), 55);
        Due.due("60", x.put(Due.packed("ooooo")), 60);
        Due.due("61", x.put('o'), TOO_MANY);
        Due.due("68", x.put(Due.packed("oooooooo")), TOO_MANY);
        Due.due("wrong ones first", x.put(32), BAD_VALUE);
        Due.due("fault", x.fault(), NONE);
        Due.due("wipe", x.wipe(), 60);
    }

    private static void wiping() {
        Due.about("Promise 16", "Empties the pad, and returns the length that it had.");
        BeamTurnstiles x = new BeamTurnstiles();
        Due.due("empty", x.wipe(), 0);
        Due.putText(x, "0oi;0x");
        Due.due("six", x.wipe(), 6);
        Due.due("empty again", x.wipe(), 0);
        Due.due("length", x.count(16), 0);
        Due.due("fault of nothing", x.fault(), 0);
        Due.due("read", x.read(), BAD_TEXT);
        Due.putText(x, "1o");
        Due.due("nothing of before", x.fault(), NONE);
    }

    private static void faultOf(String text, int due) {
        BeamTurnstiles x = new BeamTurnstiles();
        Due.putText(x, text);
        Due.due("fault of " + text, x.fault(), due);
        Due.due("fault of " + text + " again", x.fault(), due);
        Due.due("length of " + text, x.count(16), text.length());
        boolean readable = x.read() >= 0;
        Due.due("can be read: " + text, readable ? 1 : 0, due == NONE ? 1 : 0);
    }

    private static void faultless() {
        Due.about("Promise 17", "Returns the fault of the pad, NONE if there is none.");
        String[] texts = {"0o", "5b", "0oib", "3iiiiiii", ".1", ".9", ".10", ".19", ".90", ".99", "0o;1i", ".1;.2",
            "0o;.5;0o", ".5;0o;.5", "0" + "b".repeat(59)};
        for (String text : texts) {
            faultOf(text, NONE);
        }
    }

    private static void faults() {
        Due.about("Promise 17", "Returns the fault of the pad, NONE if there is none.");
        String[] texts = {"0", ".", ";", "o", "6o", "9o", "00", "0o1", "0o0", "0o.", "0o.1", "0o;", "0o;;", "0;", "0x",
            "0O", ".0", ".01", ".a", ".;", "..", ".100", ".1.", ".1o", ".12o", ".1;", ".12;", ".5;.", "0o;x", "0o;0",
            "1", "12", "/o", ":o", "-o", "0o,1o", "0o;6", "0o;o", "b", "0oa", "0ob1", ".1:", ".1/", ".:", "./",
            ".123;"};
        int[] due = {1, 1, 0, 0, 0, 0, 1, 2, 2, 2, 2, 3, 3, 1, 1,
            1, 1, 1, 1, 1, 1, 3, 2, 2, 3, 3, 4, 4, 3, 4,
            1, 1, 0, 0, 0, 2, 3, 3, 0, 2, 3, 2, 2, 1, 1, 3};
        Due.due("rows", texts.length, due.length);
        for (int k = 0; k < texts.length && k < due.length; k++) {
            faultOf(texts[k], due[k]);
        }
    }

    /** All texts of up to 5 of these characters; the fault is where one ceases to be the beginning of a right one. */
    private static void allShortTexts() {
        Due.about("Texts", "events: text = event { \";\" event }; event = gate letter { letter } | \".\" number");
        Pattern right = Pattern.compile("E(;E)*".replace("E", "([0-5][oib]+|\\.[1-9][0-9]?)"));
        List<String> texts = new ArrayList<>(List.of(""));
        for (int k = 0; k < texts.size(); k++) {
            String text = texts.get(k);
            BeamTurnstiles x = new BeamTurnstiles();
            x.put(Due.packed(text));
            Matcher whole = right.matcher(text);
            boolean isRight = whole.matches();
            boolean isBeginning = isRight || whole.hitEnd();
            int wrong = isBeginning ? text.length() : firstFault(right, text);
            Due.due("fault of " + text, x.fault(), isRight ? NONE : wrong);
            for (int c = 0; c < 8 && text.length() < 5; c++) {
                texts.add(text + "059oi.;6".charAt(c));
            }
        }
    }

    private static int firstFault(Pattern right, String text) {
        int at = 0;
        Matcher beginning = right.matcher(text.substring(0, 1));
        while (beginning.matches() || beginning.hitEnd()) {
            at++;
            beginning = right.matcher(text.substring(0, at + 1));
        }
        return at;
    }

    /** At each place of the text: which characters can stand there. */
    private static void faultAtEveryCharacter() {
        Due.about("Texts",
            "The fault is the index of the first character that cannot stand at its place when the text is "
            + "read from left to right");
        String[] before = {"", "0", "0o", ".", ".5", ".55", "0o;"};
        String[] can = {"012345.", "oib", "oib;", "123456789", "0123456789;", ";", "012345."};
        for (int k = 0; k < before.length; k++) {
            for (char c = 33; c < 127; c++) {
                BeamTurnstiles x = new BeamTurnstiles();
                Due.putText(x, before[k] + c);
                boolean wrongThere = x.fault() == before[k].length();
                Due.due("'" + c + "' behind " + before[k], wrongThere ? 0 : 1, can[k].indexOf(c) >= 0 ? 1 : 0);
            }
        }
    }

    private static void notAChange() {
        Due.about("Texts", "Ahead of the calls put, wipe, fault the interface says: ---- texts.");
        BeamTurnstiles x = new BeamTurnstiles();
        Due.putText(x, "0o");
        x.fault();
        x.wipe();
        Due.due("nothing to undo", x.count(17), 0);
    }
}
