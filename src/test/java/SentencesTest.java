import java.io.IOException;
import java.nio.file.Files;
import java.nio.file.Path;
import java.util.ArrayList;
import java.util.List;
import java.util.regex.Matcher;
import java.util.regex.Pattern;

/**
 * Each sentence of the document stands in SENTENCES.md with the tests that would fail if it did not hold, in the
 * document's order, and these tests are there and are called. Runs in the project's folder.
 */
public final class SentencesTest {
    private static final Due DUE = new Due("SentencesTest");
    private static final Path DOCUMENT = Path.of("../shared/DOC.md");
    private static final Path TOLD = Path.of("src/test/SENTENCES.md");
    private static final Path TESTS = Path.of("src/test/java");
    private static final Pattern TEST = Pattern.compile("\\b(\\w+Test)\\.(\\w+)\\b");

    public static void main(String[] args) throws IOException {
        String told = Files.readString(TOLD);
        // The document may stand elsewhere one day; what the tests say of the class holds without it.
        if (Files.exists(DOCUMENT)) {
            everySentenceStandsThere(sentencesOf(Files.readString(DOCUMENT)), quotedIn(told));
        } else {
            System.out.println("SentencesTest: there is no " + DOCUMENT + " to compare with");
        }
        everySentenceHasTests(told);
        everyTestIsThere(told);
        DUE.end();
    }

    /** What stands under a heading of the document, cut behind each full stop. The face is no sentence. */
    private static List<String> sentencesOf(String document) {
        List<String> sentences = new ArrayList<>();
        String heading = "";
        for (String line : document.replaceAll("(?s)```.*?```", "").split("\n")) {
            String text = line.trim();
            if (text.startsWith("#")) {
                heading = text.replaceFirst("^#+ *", "");
            } else if (!text.isEmpty()) {
                for (String sentence : text.split("(?<=\\.)\\s+(?=[A-Z])")) {
                    sentences.add(heading + " > " + sentence);
                }
            }
        }
        return sentences;
    }

    private static List<String> quotedIn(String told) {
        List<String> quoted = new ArrayList<>();
        String heading = "";
        for (String line : told.split("\n")) {
            if (line.startsWith("## ")) {
                heading = line.substring(3);
            } else if (line.startsWith("> ")) {
                quoted.add(heading + " " + line);
            }
        }
        return quoted;
    }

    private static void everySentenceStandsThere(List<String> sentences, List<String> quoted) {
        DUE.is("sentences", quoted.size(), sentences.size());
        for (int i = 0; i < sentences.size(); i++) {
            String there = i < quoted.size() ? quoted.get(i) : "";
            DUE.is("\"" + sentences.get(i) + "\" is quoted", sentences.get(i).equals(there) ? 1 : 0, 1);
        }
    }

    private static void everySentenceHasTests(String told) {
        String[] parts = told.substring(told.indexOf("\n## ")).split("(?m)^> ");
        for (int i = 1; i < parts.length; i++) {
            String behind = parts[i].substring(parts[i].indexOf('\n'));
            boolean has = behind.contains("No test: ") || behind.contains("Tests: ") && TEST.matcher(behind).find();
            DUE.is("tests of \"" + parts[i].trim() + "\"", has ? 1 : 0, 1);
        }
    }

    private static void everyTestIsThere(String told) throws IOException {
        Matcher matcher = TEST.matcher(told);
        while (matcher.find()) {
            Path file = TESTS.resolve(matcher.group(1) + ".java");
            String code = Files.exists(file) ? Files.readString(file) : "";
            boolean isMade = Pattern.compile("void " + matcher.group(2) + "\\(").matcher(code).find();
            boolean isCalled = Pattern.compile("(?<!void )\\b" + matcher.group(2) + "\\(").matcher(code).find();
            DUE.is(matcher.group() + " is there", isMade ? 1 : 0, 1);
            DUE.is(matcher.group() + " is called", isCalled ? 1 : 0, 1);
        }
    }
}
