import java.io.IOException;
import java.nio.file.DirectoryStream;
import java.nio.file.Files;
import java.nio.file.Path;
import java.util.ArrayList;
import java.util.List;
import java.util.concurrent.TimeUnit;

/** README.md's example runs as it is written there, by the commands that it names; its table has all calls. */
public final class ReadmeTest {
    private static final String PROGRAM = "src/main/java/Miceline.java";
    private static final int MOST_SECONDS = 300;

    private final Checks checks = new Checks("ReadmeTest");
    private final String readme;

    private ReadmeTest(String readme) {
        this.readme = readme;
    }

    public static void main(String[] args) throws IOException, InterruptedException {
        ReadmeTest test = new ReadmeTest(Files.readString(Path.of("README.md")));
        test.namesOfTests();
        test.example();
        test.exampleHasAllCalls();
        test.tableOfCalls();
        test.checks.end();
    }

    private String block(String kind) {
        String start = "\n```" + kind + "\n";
        int from = readme.indexOf(start);
        checks.due("README has a block of " + kind, true, from >= 0);
        int end = readme.indexOf("\n```\n", from + start.length());
        return from < 0 || end < 0 ? "" : readme.substring(from + start.length(), end + 1);
    }

    private void example() throws IOException, InterruptedException {
        checks.sentence(0, "A railway run by mice.");
        Path folder = Files.createTempDirectory("readme");
        Path program = folder.resolve(PROGRAM);
        Files.createDirectories(program.getParent());
        Files.copy(Path.of(PROGRAM), program);
        Path example = folder.resolve("Example.java");
        Files.writeString(example, block("java"));
        Path printed = folder.resolve("printed");
        ProcessBuilder commands = new ProcessBuilder("sh", "-e", "-c", block("sh"));
        commands.directory(folder.toFile()).redirectErrorStream(true).redirectOutput(printed.toFile());
        Process running = commands.start();
        boolean ended = running.waitFor(MOST_SECONDS, TimeUnit.SECONDS);
        checks.due("the commands end", true, ended);
        checks.due("their exit code", 0, ended ? running.exitValue() : -1);
        running.destroy();
        String[] due = block("text").split("\n");
        String[] got = Files.readString(printed).split("\n");
        checks.due("how many lines are printed", due.length, got.length);
        for (int k = 0; k < due.length && k < got.length; k++) {
            checks.due("line " + (k + 1), due[k], got[k]);
        }
        delete(folder);
    }

    private static void delete(Path path) throws IOException {
        if (Files.isDirectory(path)) {
            List<Path> parts = new ArrayList<>();
            try (DirectoryStream<Path> found = Files.newDirectoryStream(path)) {
                found.forEach(parts::add);
            }
            for (Path part : parts) {
                delete(part);
            }
        }
        Files.delete(path);
    }

    private void exampleHasAllCalls() throws IOException {
        checks.sentence(0, "Its calls: sections and routes are told, levers are pulled and put back, trains come and "
                + "wait for cheese, enter, and go tail by tail, cats sit on the line, detectors and counters lie, "
                + "minutes go by. One asks what holds a lever, what a section shows and what is there in truth, where "
                + "a train is, what it is paid, who moved what last, and by which fewest steps a frame with some liars "
                + "and loose locks comes to danger.");
        String example = block("java");
        for (Face.Call call : Face.calls()) {
            String used = call.isConstructor() ? "new " + call.name + "(" : "line." + call.name + "(";
            checks.due("the example uses " + call.name, true, example.contains(used));
        }
    }

    private void tableOfCalls() throws IOException {
        checks.sentence(0, "Nothing is promised beyond the answers and state changes described above, and nothing "
                + "about an object after its 512th call.");
        List<String> rows = new ArrayList<>();
        for (String line : readme.split("\n")) {
            if (line.startsWith("| `")) {
                rows.add(line);
            }
        }
        List<Face.Call> calls = Face.calls();
        checks.due("the table has as many rows as there are calls", calls.size(), rows.size());
        for (int k = 0; k < calls.size() && k < rows.size(); k++) {
            Face.Call call = calls.get(k);
            String[] cells = rows.get(k).substring(1).split("\\|");
            checks.due("the row of " + call.name, "`" + call.said + "`", cells[0].strip());
            checks.due("what " + call.name + " throws", String.join(", ", call.thrown).replace("Exception", ""),
                    cells[2].strip());
        }
    }

    private void namesOfTests() throws IOException {
        try (DirectoryStream<Path> tests = Files.newDirectoryStream(Path.of("src/test/java"), "*Test.java")) {
            for (Path test : tests) {
                String name = test.getFileName().toString().replace(".java", "");
                checks.due("README tells of " + name, true, readme.contains("`" + name + "`"));
            }
        }
    }
}
