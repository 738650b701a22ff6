import java.io.IOException;
import java.nio.file.Files;
import java.nio.file.Path;
import java.util.ArrayList;
import java.util.LinkedHashMap;
import java.util.List;
import java.util.Map;
import java.util.Set;
import java.util.regex.Matcher;
import java.util.regex.Pattern;

/** What can be seen in the text of src/main/java/Miceline.java of the rules of LANGUAGE.md. */
public final class LanguageTest {
    private static final int MOST_LINES = 60;
    private static final int MOST_PARAMETERS = 7;
    private static final int MOST_DEPTH = 8;
    private static final Set<String> LIBRARY = Set.of(
            "add", "append", "bitCount", "fill", "get", "length", "max", "size", "toString");
    private static final Pattern NAME_AND_BRACKET = Pattern.compile("(?<!new )\\b([a-z]\\w*)\\(");
    private static final String[] NEVER = {
        "->", "::", "\\btry\\b", "\\bcatch\\b", "\\bfinally\\b", "\\bsynchronized\\b", "\\bassert\\b", "\\bnative\\b",
        "\\bpackage\\b", "\\bprotected\\b", "\\bstatic\\s*\\{", "\\bSystem\\.(?!arraycopy)", "\\bThread\\b",
        "\\bRandom\\b", "Exact\\(", "\\bString\\.format", "\" *\\+", "\\+ *\"", "\\bMath\\.(?!max|min|abs|floor)",
        "\\bequals\\(", "\\bhashCode\\b", "\\btoString\\b(?!\\(\\))", "\\bwhile\\b"
    };
    private static final String THROWN =
            "throw new (IllegalStateException|IllegalArgumentException|IndexOutOfBoundsException)\\(\"[ -~]*\"\\);";

    private final Checks checks = new Checks("LanguageTest");
    private final Map<String, String> bodies = new LinkedHashMap<>();

    public static void main(String[] args) throws IOException {
        LanguageTest test = new LanguageTest();
        List<String> lines = Files.readAllLines(Path.of("src/main/java/Miceline.java"));
        test.look(lines);
        test.checks.end();
    }

    private void look(List<String> lines) {
        List<String> imports = new ArrayList<>();
        for (int k = 0; k < lines.size(); k++) {
            String line = lines.get(k);
            String at = "line " + (k + 1);
            checks.due(at + " is of signs 1 to 127", true, line.chars().allMatch(sign -> sign > 0 && sign < 128));
            if (line.startsWith("import ")) {
                imports.add(line);
            } else if (!line.strip().startsWith("/") && !line.strip().startsWith("*")) {
                lookAtCode(at, line);
            }
        }
        checks.due("imports", "[import java.util.ArrayList;, import java.util.Arrays;]", imports.toString());
        lookAtMethods(lines);
        lookAtCalls();
    }

    private void lookAtCode(String at, String line) {
        for (String never : NEVER) {
            checks.due(at + " has no " + never, false, Pattern.compile(never).matcher(line).find());
        }
        if (line.contains("throw ")) {
            checks.due(at + " throws what is let", true, line.strip().matches(THROWN));
        }
        if (line.contains(" static ") && line.endsWith(";")) {
            checks.due(at + " is a constant", true, line.contains(" static final "));
        }
    }

    /** A method or constructor starts with its name and a bracket, indented by 4 or 8, and ends with a brace there. */
    private void lookAtMethods(List<String> lines) {
        Pattern start = Pattern.compile("^( {4}| {8})(?:public |private |static )*(?:[\\w<>\\[\\]]+ )?(\\w+)\\((.*)$");
        int methods = 0;
        for (int k = 0; k < lines.size(); k++) {
            Matcher found = start.matcher(lines.get(k));
            if (found.matches() && !lines.get(k).endsWith(";") && !lines.get(k).contains(" if (")
                    && !lines.get(k).contains(" for (") && !lines.get(k).contains(" switch (")) {
                methods++;
                int end = lines.subList(k, lines.size()).indexOf(found.group(1) + "}");
                checks.due(found.group(2) + " is short", true, end > 0 && end <= MOST_LINES);
                checks.due(found.group(2) + " takes few", true, found.group(3).split(",").length <= MOST_PARAMETERS);
                String body = String.join("\n", lines.subList(k + 1, k + Math.max(1, end)));
                checks.due(found.group(2) + " is the only one of its name", true,
                        bodies.put(found.group(2), body) == null);
            }
        }
        checks.due("methods are found", true, methods > 23);
    }

    /** No method comes back to itself, and the calls that stand open at once are few; the library's are those let. */
    private void lookAtCalls() {
        for (String name : bodies.keySet()) {
            int depth = depthOf(name, 1);
            checks.due(name + " goes at most " + MOST_DEPTH + " deep, not " + depth, true, depth <= MOST_DEPTH);
        }
        Matcher called = Pattern.compile("[.](\\w+)\\(").matcher(String.join("\n", bodies.values()));
        while (called.find()) {
            String name = called.group(1);
            checks.due("." + name + "() is let", true, bodies.containsKey(name) || LIBRARY.contains(name));
        }
    }

    private int depthOf(String name, int open) {
        int depth = 1;
        Matcher called = NAME_AND_BRACKET.matcher(bodies.get(name));
        while (called.find() && open <= MOST_DEPTH) {
            if (bodies.containsKey(called.group(1))) {
                depth = Math.max(depth, 1 + depthOf(called.group(1), open + 1));
            }
        }
        return depth;
    }
}
