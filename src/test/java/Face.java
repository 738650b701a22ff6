import java.io.IOException;
import java.nio.file.Files;
import java.nio.file.Path;
import java.util.ArrayList;
import java.util.List;
import java.util.regex.Matcher;
import java.util.regex.Pattern;

/** The public face as ../shared/DOC.md writes it. */
final class Face {
    private static final Pattern CALL = Pattern.compile("public ((?:(\\w+) )?(\\w+)\\((.*)\\))(?: throws (.*))?;");

    /** A line of the face: what it says without its throws, the constructor's without an answer. */
    static final class Call {
        final String said;
        final String answer;
        final String name;
        final List<String> types = new ArrayList<>();
        final List<String> thrown = new ArrayList<>();

        private Call(Matcher line) {
            said = line.group(1);
            answer = line.group(2);
            name = line.group(3);
            for (String parameter : parts(line.group(4))) {
                types.add(parameter.split(" ")[0]);
            }
            thrown.addAll(parts(line.group(5)));
        }

        boolean isConstructor() {
            return answer == null;
        }

        private static List<String> parts(String listed) {
            return listed == null || listed.isEmpty() ? List.of() : List.of(listed.split(", "));
        }
    }

    private Face() {
    }

    static List<Call> calls() throws IOException {
        String document = Files.readString(Path.of("../shared/DOC.md"));
        int from = document.indexOf("## The public face");
        List<Call> calls = new ArrayList<>();
        for (String line : document.substring(from, document.indexOf("## Description", from)).split("\n")) {
            Matcher found = CALL.matcher(line.strip());
            if (found.matches()) {
                calls.add(new Call(found));
            }
        }
        return calls;
    }
}
