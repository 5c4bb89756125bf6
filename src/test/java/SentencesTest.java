import java.io.IOException;
import java.nio.file.Files;
import java.nio.file.Path;
import java.util.List;

/** src/test/sentences.txt names tests for each sentence of the document: none is left out, and the tests are there. */
public final class SentencesTest {
    private static final Due DUE = new Due();
    private static final String SENTENCE = "> ", TESTS = "  ", NOTHING_PROMISED = "free";

    /** The document without its headings and its piece of Java, which LanguageTest holds against the class. */
    private static String document(Path file) throws IOException {
        String text = Files.readString(file).replaceAll("(?s)```java.*?```", "");
        return text.replaceAll("(?m)^#.*$", "").replaceAll("\\s+", " ").strip();
    }

    private static void allSentences(List<String> lines, String document) {
        int at = 0;
        for (String line : lines) {
            if (line.startsWith(SENTENCE)) {
                String sentence = line.substring(SENTENCE.length());
                boolean next = document.startsWith(sentence, at);
                DUE.is("next in the document is \"" + sentence + "\"", next ? 1 : 0, 1);
                if (!next) {
                    return;
                }
                at = Math.min(document.length(), at + sentence.length() + 1);
            }
        }
        DUE.is("no tests are named for \"" + document.substring(at) + "\"", document.length() - at, 0);
    }

    private static void testsAreThere(List<String> lines) throws IOException {
        String sentence = "";
        for (String line : lines) {
            if (!sentence.isEmpty()) {
                DUE.is("tests are named for \"" + sentence + "\"", line.startsWith(TESTS) ? 1 : 0, 1);
                for (String test : line.strip().split(", ")) {
                    DUE.is(test + " is a test", test.equals(NOTHING_PROMISED) || isTest(test) ? 1 : 0, 1);
                }
            }
            sentence = line.startsWith(SENTENCE) ? line : "";
        }
        DUE.is("tests are named for the last sentence", sentence.isEmpty() ? 1 : 0, 1);
    }

    /** A method of a test's file that another one calls. */
    private static boolean isTest(String test) throws IOException {
        int dot = test.indexOf('.');
        Path file = Path.of("src/test/java", test.substring(0, Math.max(0, dot)) + ".java");
        if (dot < 0 || !Files.exists(file)) {
            return false;
        }
        String text = Files.readString(file);
        String name = test.substring(dot + 1);
        return text.contains("private static void " + name + "(") && text.contains("    " + name + "(");
    }

    public static void main(String[] args) throws IOException {
        List<String> lines = Files.readAllLines(Path.of("src/test/sentences.txt"));
        testsAreThere(lines);
        String shared = System.getenv().getOrDefault("SHARED", "../shared");
        Path document = Path.of(shared, "DOC.md");
        if (Files.exists(document)) {
            allSentences(lines, document(document));
        } else {
            System.out.println("there is no " + document + ": its sentences are not compared");
        }
        DUE.end();
    }
}
