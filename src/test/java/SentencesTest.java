import java.io.IOException;
import java.lang.reflect.Method;
import java.nio.file.Files;
import java.nio.file.Path;
import java.util.Arrays;
import java.util.Set;
import java.util.TreeSet;

/** Each word of the document's promises and terms is claimed by a test, and each claim stands in the document. */
public final class SentencesTest {
    private static final Path DOCUMENT = Path.of("../shared/DOC.md");
    private static final int PROMISES = 36;
    /** What joins sentences and says which exception's row it is; and the one sentence that no test can hold. */
    private static final Set<String> JOINS = Set.of("Throws", "if", "or", "and", "IllegalArgumentException",
        "IllegalStateException", "IndexOutOfBoundsException", "UnsupportedOperationException",
        "NoSuchElementException", "ArithmeticException", "People", "Machines", "Works", "Evenings", "Orders", "Books");
    private static final String NOT_TESTED = "This class is not thread-safe.";

    public static void main(String[] args) throws IOException {
        String document = Files.readString(DOCUMENT);
        String[] whole = new String[PROMISES + 1];
        whole[0] = section(document, "## What it is", "## The public face")
            + section(document, "## Terms", "## Promise 1:").replace(NOT_TESTED, " ");
        for (int i = 1; i <= PROMISES; i++) {
            whole[i] = section(document, "## Promise " + i + ":",
                i < PROMISES ? "## Promise " + (i + 1) + ":" : "## Not promised");
        }
        char[][] left = new char[PROMISES + 1][];
        for (int i = 0; i <= PROMISES; i++) {
            left[i] = whole[i].toCharArray();
        }
        int[] tests = new int[PROMISES + 1];
        for (Class<?> each : Sentences.ALL) {
            for (Method test : Sentences.of(each)) {
                Says says = test.getAnnotation(Says.class);
                tests[says.promise()]++;
                claim(test.getName(), says, whole[says.promise()], left[says.promise()]);
            }
        }
        for (int i = 0; i <= PROMISES; i++) {
            int count = tests[i];
            String rest = words(new String(left[i])).toString();
            Check.due(true, "promise " + i + " has tests", () -> count > 0);
            Check.due("[]", "words of promise " + i + " that no test claims", () -> rest);
        }
        Check.finish("SentencesTest");
    }

    /** Blanks in what is left all places where the claimed words stand in the whole. */
    private static void claim(String test, Says says, String whole, char[] left) {
        int promise = says.promise();
        String prefix = promise == 0 ? "terms" : "promise" + (promise < 10 ? "0" : "") + promise;
        Check.due(true, test + " is named by " + prefix, () -> test.startsWith(prefix));
        for (String words : says.value()) {
            Check.due(true, test + ": the document says '" + words + "'", () -> whole.contains(words));
            for (int at = whole.indexOf(words); at >= 0; at = whole.indexOf(words, at + 1)) {
                Arrays.fill(left, at, at + words.length(), ' ');
            }
        }
    }

    /** A section without its heading and the row of its call; lines are joined. */
    private static String section(String document, String heading, String next) {
        int from = document.indexOf(heading);
        int to = document.indexOf(next, from);
        if (from < 0 || to < 0) {
            throw new IllegalStateException("the document has no section from " + heading + " to " + next);
        }
        String text = document.substring(document.indexOf('\n', from), to);
        return text.replaceAll("(?m)^`[^`]*\\)[^`]*`:", " ").replaceAll("\\s+", " ");
    }

    private static Set<String> words(String text) {
        Set<String> all = new TreeSet<>();
        for (String word : text.split("[^A-Za-z0-9']+")) {
            if (!word.isEmpty() && !JOINS.contains(word)) {
                all.add(word);
            }
        }
        return all;
    }
}
