import java.io.IOException;
import java.nio.file.Files;
import java.nio.file.Path;
import java.util.LinkedHashMap;
import java.util.Map;

/**
 * Tests of single sentences of ../shared/DOC.md: where a sentence stands, its own words, and calls that show
 * it. The words are looked up in the document, so that no test speaks of what is not there; and in the end
 * every word of 'Terms' and of the promises has to be some test's, so that no sentence is left out.
 */
final class Sentence {
    private static final Path DOCUMENT = Path.of("../shared/DOC.md");

    private static final Map<String, String> PARTS = new LinkedHashMap<>();
    private static final Map<String, boolean[]> TESTED = new LinkedHashMap<>();
    private static int tests = 0;

    private Sentence() { }

    static void readDocument() throws IOException {
        if (!Files.exists(DOCUMENT)) {
            System.out.println("no " + DOCUMENT + ": the tests' words are not looked up");
            return;
        }
        for (String chapter : Files.readString(DOCUMENT).split("(?m)^## ")) {
            String title = chapter.lines().findFirst().orElse("");
            String text = chapter.substring(title.length());
            if (title.equals("Terms")) {
                int number = 1;
                for (String part : text.split("==== \\d\\.")) {
                    addPart("Terms " + number, part);
                    number++;
                }
            } else if (title.startsWith("Promise ")) {
                addPart(title.substring(0, title.indexOf(':')), text);
            } else {
                addPart(title, text);
            }
        }
    }

    private static void addPart(String name, String text) {
        String plain = plain(text.replace("```text", " ").replace("```", " "));
        PARTS.put(name, plain);
        TESTED.put(name, new boolean[plain.length()]);
    }

    private static String plain(String text) {
        return text.replaceAll("\\s+", " ").trim();
    }

    /** A test of its own for these words, which stand in that part of the document. */
    static void holds(String where, String words, Runnable calls) {
        tests++;
        Check.under(where + ", '" + words + "'");
        Check.due("the words stand there", mark(where, words), true);
        int before = Check.asked();
        try {
            calls.run();
        } catch (RuntimeException e) {
            Check.due("threw " + e, true, false);
        }
        Check.due("something is asked", Check.asked() > before, true);
        Check.under("");
    }

    private static boolean mark(String where, String words) {
        if (PARTS.isEmpty()) {
            return true;
        }
        String part = PARTS.getOrDefault(where, "");
        int first = part.indexOf(plain(words));
        for (int place = first; place >= 0; place = part.indexOf(plain(words), place + 1)) {
            for (int i = 0; i < plain(words).length(); i++) {
                TESTED.get(where)[place + i] = true;
            }
        }
        return first >= 0;
    }

    /** No letter and no digit of 'Terms' and of the promises may be left without a test. */
    static void noneIsLeftOut() {
        for (Map.Entry<String, String> part : PARTS.entrySet()) {
            if (part.getKey().startsWith("Terms") || part.getKey().startsWith("Promise")) {
                String left = leftOf(part.getValue(), TESTED.get(part.getKey()));
                Check.due(part.getKey() + ", without a test: '" + left + "'", left.isEmpty(), true);
            }
        }
    }

    private static String leftOf(String text, boolean[] tested) {
        StringBuilder left = new StringBuilder();
        for (int i = 0; i < text.length(); i++) {
            if (!tested[i] && Character.isLetterOrDigit(text.charAt(i))) {
                left.append(text.charAt(i));
            }
        }
        return left.toString();
    }

    static int tests() {
        return tests;
    }
}
