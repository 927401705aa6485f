import java.io.IOException;
import java.io.UncheckedIOException;
import java.nio.file.Files;
import java.nio.file.Path;
import java.nio.file.StandardOpenOption;
import java.util.LinkedHashSet;
import java.util.Set;

/** What the tests share: comparing an answer with the one that is due, and putting texts on the pad. */
final class Due {
    private static final Set<String> QUOTED = new LinkedHashSet<>();
    private static int wrong = 0;
    private static int compared = 0;
    private static String quotation = "";
    private static String sentence = "";

    private Due() {
    }

    /** Names the sentence of the document, by its head and its own words, that the answers from here on are about. */
    static void about(String head, String words) {
        quotation = head + "\t" + words;
        sentence = head + ", \"" + words + "\": ";
    }

    static void due(String call, long got, long want) {
        compare(call + " answered " + got + ", due is " + want, got == want);
    }

    static void same(String what, String got, String want) {
        compare(what + " is " + got + ", due is " + want, got.equals(want));
    }

    private static void compare(String told, boolean asDue) {
        compared++;
        QUOTED.add(quotation);
        if (!asDue) {
            wrong++;
            System.out.println(sentence + told);
        }
    }

    /** Ends the test: with exit code 1 if an answer was wrong, or if nothing was compared. */
    static void end(String test) {
        System.out.println(test + ": " + compared + " answers, " + wrong + " wrong");
        if (wrong != 0 || compared == 0) {
            System.exit(1);
        }
        writeQuotations();
    }

    /** For DocumentTest, which looks whether any word of the document is left without a test. */
    private static void writeQuotations() {
        String file = System.getProperty("quoted");
        QUOTED.remove("");
        if (file == null) {
            return;
        }
        try {
            Files.write(Path.of(file), QUOTED, StandardOpenOption.CREATE, StandardOpenOption.APPEND);
        } catch (IOException e) {
            throw new UncheckedIOException(e);
        }
    }

    /** The number by which put() takes a text of at most 8 characters. */
    static long packed(String text) {
        long number = 0;
        for (int k = 0; k < text.length(); k++) {
            number = (number << 8) | text.charAt(k);
        }
        return number;
    }

    static void putText(BeamTurnstiles x, String text) {
        for (int k = 0; k < text.length(); k += 8) {
            int end = Math.min(k + 8, text.length());
            due("put " + text.substring(k, end), x.put(packed(text.substring(k, end))), end);
        }
    }

    /** Puts one number's worth of text behind what the pad holds. */
    static void append(BeamTurnstiles x, String text) {
        int length = x.count(16);
        due("put " + text, x.put(packed(text)), length + text.length());
    }

    /** Reads a text on an empty pad and returns what read() answers. */
    static int readText(BeamTurnstiles x, String text) {
        putText(x, text);
        return x.read();
    }

    static BeamTurnstiles after(String text) {
        BeamTurnstiles x = new BeamTurnstiles();
        readText(x, text);
        return x;
    }

    /** An object at a tick, where nothing else has happened. */
    static BeamTurnstiles atTick(int tick) {
        BeamTurnstiles x = new BeamTurnstiles();
        for (int left = tick; left > 0; left -= 999) {
            x.pass(Math.min(left, 999));
        }
        due("ticks", x.count(3), tick);
        return x;
    }

    /** Somebody comes through a gate at one tick: in by "oioi", out by "ioio". */
    static void events(BeamTurnstiles x, int gate, String letters) {
        for (int k = 0; k < letters.length(); k++) {
            x.event(gate, "oib".indexOf(letters.charAt(k)));
        }
    }
}
