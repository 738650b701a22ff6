import java.io.IOException;
import java.nio.file.DirectoryStream;
import java.nio.file.Files;
import java.nio.file.Path;
import java.util.ArrayList;
import java.util.HashMap;
import java.util.List;
import java.util.Map;
import java.util.regex.Matcher;
import java.util.regex.Pattern;

/** Each sentence of the document stands over some test, and what stands over a test is a sentence of the document. */
public final class SentenceTest {
    private static final int PROMISES = 23;
    private static final Pattern QUOTE =
            Pattern.compile("\\.sentence\\((\\d+),\\s*((?:\"(?:[^\"\\\\]|\\\\.)*\"[\\s+]*)+)\\);");
    private static final Pattern LITERAL = Pattern.compile("\"((?:[^\"\\\\]|\\\\.)*)\"");

    private final Checks checks = new Checks("SentenceTest");
    private final Map<Integer, List<String>> quotes = new HashMap<>();

    public static void main(String[] args) throws IOException {
        SentenceTest test = new SentenceTest();
        test.readTests();
        String document = Files.readString(Path.of("../shared/DOC.md"));
        test.compare(0, between(document, "## What it is", "## The public face")
                + between(document, "## Description", "The constructor and the methods follow")
                + document.substring(document.indexOf('\n', document.indexOf("## Not promised"))));
        for (int k = 1; k <= PROMISES; k++) {
            String end = k < PROMISES ? "## Promise " + (k + 1) + ":" : "## Not promised";
            test.compare(k, between(document, "## Promise " + k + ":", end));
        }
        test.checks.end();
    }

    private static String between(String text, String start, String end) {
        int from = text.indexOf('\n', text.indexOf(start));
        return text.substring(from, text.indexOf(end, from));
    }

    private void readTests() throws IOException {
        for (int k = 0; k <= PROMISES; k++) {
            quotes.put(k, new ArrayList<>());
        }
        try (DirectoryStream<Path> tests = Files.newDirectoryStream(Path.of("src/test/java"), "*.java")) {
            for (Path test : tests) {
                readQuotes(Files.readString(test));
            }
        }
    }

    private void readQuotes(String test) {
        Matcher quote = QUOTE.matcher(test);
        while (quote.find()) {
            StringBuilder said = new StringBuilder();
            Matcher literal = LITERAL.matcher(quote.group(2));
            while (literal.find()) {
                said.append(literal.group(1).replace("\\\"", "\""));
            }
            quotes.get(Integer.valueOf(quote.group(1))).add(said.toString());
        }
    }

    private void compare(int promise, String text) {
        String all = text.replaceAll("\\s+", " ");
        for (String quote : quotes.get(promise)) {
            checks.due(promise + ": the document says: " + quote, true, all.contains(quote));
        }
        for (String sentence : sentences(promise, text)) {
            checks.due(promise + ": some test is of: " + sentence, true, isQuoted(promise, sentence));
        }
    }

    /** Of the description, what ends with a stop; of a promise, each line but for its signature (see FaceTest). */
    private static List<String> sentences(int promise, String text) {
        List<String> all = new ArrayList<>();
        String plain = text.replaceAll("== .*\n", "").replaceAll("\\s+", " ");
        for (String one : promise == 0 ? plain.split("(?<=[.;]) ") : text.split("\n")) {
            String sentence = one.strip();
            if (!sentence.isEmpty() && !sentence.startsWith("`") && !sentence.startsWith("---- ")) {
                all.add(sentence);
            }
        }
        return all;
    }

    private boolean isQuoted(int promise, String sentence) {
        for (String quote : quotes.get(promise)) {
            if (sentence.contains(quote) || quote.contains(sentence)) {
                return true;
            }
        }
        return false;
    }
}
