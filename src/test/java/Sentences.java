import java.io.IOException;
import java.nio.file.Files;
import java.nio.file.Path;
import java.util.ArrayList;
import java.util.BitSet;
import java.util.LinkedHashMap;
import java.util.List;
import java.util.Map;

/**
 * Runs tests that each stand for words of the document. It knows the document's sentences, so that
 * a test whose words are not there, and a sentence without a test, are faults too.
 */
final class Sentences {
    /** One test; it makes its own objects. */
    interface Body {
        void run(Check check);
    }

    private static final Path DOCUMENT = Path.of("../shared/DOC.md");
    private static final String BETWEEN_SENTENCES = "(?<=[.:])\\s+(?=[A-Z(])";

    private final Check check = new Check("sentences");
    private final Map<String, String> texts = new LinkedHashMap<>();
    private final Map<String, BitSet> told = new LinkedHashMap<>();
    private String section = "";
    private int tests = 0;

    Sentences() {
        // A checkout without the document can still run the tests themselves.
        if (!Files.exists(DOCUMENT)) {
            System.out.println("sentences: there is no " + DOCUMENT + " to compare with");
            return;
        }
        try {
            take(Files.readAllLines(DOCUMENT));
        } catch (IOException e) {
            check.compare("reading " + DOCUMENT, "its lines", e);
        }
    }

    private void take(List<String> lines) {
        String title = "";
        for (String line : lines) {
            if (line.startsWith("## ")) {
                title = line.substring(3).replaceFirst(":.*", "");
                texts.put(title, "");
                told.put(title, new BitSet());
            } else if (!title.isEmpty() && !line.isBlank()) {
                texts.merge(title, line.strip().replaceAll("\\s+", " ") + "\n", String::concat);
            }
        }
    }

    /** The tests that follow are for this section of the document. */
    void section(String name) {
        section = name;
    }

    void test(String words, Body body) {
        tell(words);
        tests++;
        check.under(section + ", \"" + words + "\"");
        int before = check.looked();
        try {
            body.run(check);
        } catch (RuntimeException e) {
            check.compare("the test", "its end", e);
        }
        check.compare("the test looks at something", true, check.looked() > before);
    }

    /** A sentence that names no boundary, or that the tests of other sentences hold to. */
    void explains(String words) {
        tell(words);
    }

    private void tell(String words) {
        if (texts.isEmpty()) {
            return;
        }
        String text = texts.getOrDefault(section, "");
        int at = text.indexOf(words);
        check.compare(section + " says \"" + words + "\"", true, at >= 0);
        while (at >= 0) {
            told.get(section).set(at, at + words.length());
            at = text.indexOf(words, at + 1);
        }
    }

    private List<String> untold(String name) {
        List<String> found = new ArrayList<>();
        String text = texts.get(name);
        int from = 0;
        for (String line : text.split("\n")) {
            for (String sentence : line.split(BETWEEN_SENTENCES)) {
                int at = text.indexOf(sentence, from);
                from = at + sentence.length();
                int next = told.get(name).nextSetBit(at);
                if (isSentence(sentence) && (next < 0 || next >= from)) {
                    found.add(name + ": " + sentence);
                }
            }
        }
        return found;
    }

    /** Signatures, headings, numbers of examples, and parameters that name no number are none. */
    private static boolean isSentence(String piece) {
        boolean parameter = piece.startsWith("- ") && !piece.matches(".*[0-9].*");
        return !parameter && !piece.startsWith("`") && !piece.startsWith("----")
                && !piece.matches("[0-9]\\.");
    }

    void end() {
        check.under("sentences");
        for (String name : texts.keySet()) {
            if (name.equals("Description") || name.startsWith("Promise")) {
                check.compare("sentences without a test", new ArrayList<>(), untold(name));
            }
        }
        System.out.println("sentences: " + tests + " tests");
        check.end();
    }
}
