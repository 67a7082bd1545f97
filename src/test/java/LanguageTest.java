import java.io.IOException;
import java.nio.file.Files;
import java.nio.file.Path;
import java.util.ArrayList;
import java.util.List;
import java.util.regex.Matcher;
import java.util.regex.Pattern;

/** The rules of LANGUAGE.md that can be seen in the text of the class. Runs in the project's folder. */
public final class LanguageTest {
    private static final Due DUE = new Due("LanguageTest");
    private static final int LONGEST_METHOD = 60;

    private static final String[] FORBIDDEN = {
        "\\bthrows?\\b", "\\btry\\b", "\\bcatch\\b", "\\bfinally\\b", "\\bsynchronized\\b", "\\bassert\\b",
        "\\bimport\\b", "\\bpackage\\b", "\\bprotected\\b", "\\bvolatile\\b", "\\bnative\\b", "\\bvar\\b",
        "->", "::", "Exact\\b", "\\bstatic\\s*\\{", "\\bObject\\b", "\\bThread\\b", "\\bRandom\\b", "\\brandom\\b",
        "\\bequals\\b", "\\bhashCode\\b", "\\btoString\\b", "\\bcurrentTimeMillis\\b", "\\bnanoTime\\b",
        "\\bString\\b", "\\bdouble\\b", "\\bfloat\\b", "@", "%"};

    public static void main(String[] args) throws IOException {
        String source = Files.readString(Path.of("src/main/java/PlateSlabs.java"));
        String code = source.replaceAll("(?s)/\\*.*?\\*/", "").replaceAll("//[^\n]*", "")
            .replaceAll("'[^'\n]'", "' '");
        forbiddenWords(code);
        onlyTheLibraryTold(code);
        methodsAreShort(source);
        signsOfTheSource(source);
        headingsOfTheInterface(source);
        DUE.end();
    }

    private static void forbiddenWords(String code) {
        for (String word : FORBIDDEN) {
            DUE.is("uses of " + word, matches(code, word).size(), 0);
        }
        DUE.is("classes", Math.max(12, matches(code, "\\b(class|record|enum|interface)\\b").size()), 12);
    }

    private static void onlyTheLibraryTold(String code) {
        List<String> allowed = List.of("Math.abs", "Math.floorDiv", "System.arraycopy");
        for (String use : matches(code, "\\b(Math|System|Integer|Long|Arrays)\\.\\w+")) {
            DUE.is("use of " + use, allowed.contains(use) ? 1 : 0, 1);
        }
    }

    private static void methodsAreShort(String source) {
        String[] lines = source.split("\n");
        for (int i = 0; i < lines.length; i++) {
            Matcher head = Pattern.compile("^( +)[\\w\\[\\] ]+\\([^;]*\\) \\{$").matcher(lines[i]);
            if (!head.matches() || lines[i].matches(".*\\b(if|for|while|switch)\\b.*")) {
                continue;
            }
            int end = i;
            while (end < lines.length && !lines[end].equals(head.group(1) + "}")) {
                end++;
            }
            DUE.is("line " + (i + 1) + " begins a long method", end - i > LONGEST_METHOD ? 1 : 0, 0);
            int parameters = lines[i].split(",").length;
            DUE.is("line " + (i + 1) + " has many parameters", parameters > 7 ? 1 : 0, 0);
        }
    }

    private static void signsOfTheSource(String source) {
        for (int i = 0; i < source.length(); i++) {
            char sign = source.charAt(i);
            if (sign != '\n' && (sign < ' ' || sign > '~')) {
                DUE.is("sign " + (int) sign + " at " + i, 1, 0);
            }
        }
    }

    /** "Ahead of the calls .. the interface says: ---- pairs." and so on: the calls stand behind their heading. */
    private static void headingsOfTheInterface(String source) {
        String[] inOrder = {"// ---- pairs\n", "set", "turnOn", "turnOff", "put", "couple", "pass",
            "// ---- texts\n", "type", "clearText", "perform", "stopped", "// ---- history\n", "undo", "keep", "restore",
            "// ---- what is told\n", "pair", "book", "reason", "force", "restsIn", "depthIn", "leastVoltage",
            "drawingVoltage", "strongest", "count"};
        int at = source.indexOf("public PlateSlabs()");
        for (String next : inOrder) {
            Pattern line = Pattern.compile(next.startsWith("//") ? next : "    public (int|long) " + next + "\\(");
            Matcher matcher = line.matcher(source);
            boolean isFound = at >= 0 && matcher.find(at);
            DUE.is(next.trim() + " stands behind what is ahead of it", isFound ? 1 : 0, 1);
            at = isFound ? matcher.end() : at;
        }
    }

    private static List<String> matches(String code, String pattern) {
        List<String> found = new ArrayList<>();
        Matcher matcher = Pattern.compile(pattern).matcher(code);
        while (matcher.find()) {
            found.add(matcher.group());
        }
        return found;
    }
}
