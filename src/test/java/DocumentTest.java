import java.io.IOException;
import java.nio.file.Files;
import java.nio.file.Path;
import java.util.BitSet;
import java.util.HashMap;
import java.util.LinkedHashMap;
import java.util.Map;
import java.util.regex.Matcher;
import java.util.regex.Pattern;

/**
 * Each word of the document is in a sentence, or a part of one, that a test quotes and compares answers about. It reads
 * what the other tests have quoted, so .ci/run runs it behind them all.
 */
final class DocumentTest {
    private static final Pattern HEAD = Pattern.compile("#+ ([^:]*).*|(CONVENTIONS)\\. .*|(Gates, beams)");
    private static final Pattern WORD = Pattern.compile("\\w+");

    /** What no call can show. The section "Not promised" leaves something free in each of its sentences. */
    private static final String[][] NOT_SHOWN = {
        {"What it is", "what later calls answer is free."},
        {"Passages", "and its place stays."},
        {"Not promised", "How the state is held inside the object is free, as are the speed of each call, "
            + "the text of toString and the behaviour of equals and hashCode."},
        {"Not promised", "Use of one object from several threads at once is not promised to be safe."},
        {"Not promised", "Nothing is promised beyond the answers and state changes described above, "
            + "and nothing about an object after its 512th call."},
    };

    private final Map<String, String> texts = new LinkedHashMap<>();
    private final Map<String, BitSet> quoted = new HashMap<>();

    private DocumentTest(String document) {
        // The face is compared by LanguageTest.
        String[] lines = document.replaceAll("(?s)```java.*?```", "").split("\n");
        String head = "";
        for (String line : lines) {
            Matcher at = HEAD.matcher(line);
            if (at.matches()) {
                head = at.group(1) != null ? at.group(1) : at.group(2) != null ? at.group(2) : at.group(3);
                line = line.startsWith("CONVENTIONS") ? line.substring("CONVENTIONS.".length()) : "";
            }
            texts.merge(head, plain(head, line), (before, more) -> (before + " " + more).trim());
        }
        for (String each : texts.keySet()) {
            quoted.put(each, new BitSet());
        }
    }

    public static void main(String[] args) throws IOException {
        DocumentTest document = new DocumentTest(Files.readString(Path.of("../shared/DOC.md")));
        String file = System.getProperty("quoted");
        if (file == null) {
            System.out.println("DocumentTest needs what the other tests have quoted: run .ci/run");
            System.exit(1);
        }
        for (String[] each : NOT_SHOWN) {
            document.quote(each[0], each[1]);
        }
        for (String line : Files.readAllLines(Path.of(file))) {
            document.quote(line.substring(0, line.indexOf('\t')), line.substring(line.indexOf('\t') + 1));
        }
        document.nothingLeft();
        Due.end("DocumentTest");
    }

    /** A line without its marks, and without the head of a method, which is a part of the face. */
    private static String plain(String head, String line) {
        String words = head.startsWith("Promise") ? line.replaceAll("^`[^`]*`: ", "") : line;
        return words.replaceAll("^- ", "").replace("`", "").trim();
    }

    private void quote(String head, String words) {
        String text = texts.getOrDefault(head, "");
        int at = text.indexOf(words);
        Due.due("in the document: " + head + ", \"" + words + "\"", at >= 0 ? 1 : 0, 1);
        for (; at >= 0; at = text.indexOf(words, at + 1)) {
            quoted.get(head).set(at, at + words.length());
        }
    }

    private void nothingLeft() {
        for (String head : texts.keySet()) {
            StringBuilder left = new StringBuilder();
            Matcher word = WORD.matcher(texts.get(head));
            while (word.find()) {
                if (quoted.get(head).nextClearBit(word.start()) < word.end()) {
                    left.append(word.group()).append(' ');
                }
            }
            Due.same(head + ": what no test quotes", left.toString().trim(), "");
        }
    }
}
