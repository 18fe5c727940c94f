import java.io.IOException;
import java.nio.charset.StandardCharsets;
import java.nio.file.Files;
import java.nio.file.Path;
import java.util.Arrays;

/** The document's own words: each test of a bound quotes the sentence it holds, and at the end every sentence must have been quoted. */
final class Sentences {
    private static final Path DOCUMENT = Path.of("../shared/DOC.md");
    private static final String RULES = rules();
    private static final boolean[] QUOTED = new boolean[RULES.length()];
    private static String last = "";
    private static int doneBefore = 0;

    private Sentences() {
    }

    /** From now on the checks are about this sentence. */
    static void of(String quote) {
        close();
        if (!RULES.isEmpty()) {
            int at = RULES.indexOf(quote);
            boolean once = at >= 0 && at == RULES.lastIndexOf(quote);
            Check.due("the document says once: " + quote, 1, once ? 1 : 0);
            Arrays.fill(QUOTED, Math.max(at, 0), at < 0 ? 0 : at + quote.length(), true);
        }
        Check.about(quote);
        last = quote;
        doneBefore = Check.done();
    }

    /** Every letter of the document's rules must stand in a quote. */
    static void end() {
        close();
        StringBuilder open = new StringBuilder();
        for (int k = 0; k < RULES.length(); k++) {
            if (!QUOTED[k] && Character.isLetterOrDigit(RULES.charAt(k))) {
                open.append(RULES.charAt(k));
            } else if (open.length() > 0 && open.charAt(open.length() - 1) != ' ') {
                open.append(' ');
            }
        }
        Check.same("sentences without a test", "", open.toString().trim());
    }

    private static void close() {
        Check.about("");
        if (!last.isEmpty()) {
            Check.due("a check of its own has: " + last, 1, Check.done() > doneBefore ? 1 : 0);
        }
        last = "";
    }

    // What the document promises, as one line: from part 1 to promise 30, without headings, the face in Java and what stands ahead of calls.
    private static String rules() {
        if (!Files.exists(DOCUMENT)) {
            return "";
        }
        String all = read().replaceAll("(?s)```java.*?```", "").replaceAll("(?m)^#.*$", "").replaceAll("(?m)^Ahead of the calls.*$", "")
            .replace("```text", "").replace("```", "").replace("========", "").replaceAll("\\s+", " ");
        int begin = Math.max(all.indexOf("1 A TEXT is"), 0);
        int end = all.indexOf("How the state is held");
        return all.substring(begin, end < begin ? all.length() : end).trim();
    }

    private static String read() {
        try {
            return new String(Files.readAllBytes(DOCUMENT), StandardCharsets.UTF_8);
        } catch (IOException e) {
            throw new IllegalStateException(e);
        }
    }
}
