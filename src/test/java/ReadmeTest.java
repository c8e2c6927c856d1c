import java.io.File;
import java.io.IOException;
import java.nio.file.Files;
import java.nio.file.Path;
import java.util.ArrayList;
import java.util.Comparator;
import java.util.HashMap;
import java.util.List;
import java.util.Map;
import java.util.Set;
import java.util.TreeSet;
import java.util.regex.Matcher;
import java.util.regex.Pattern;
import java.util.stream.Stream;

/** What README.md says of the use of the class and of the running of its tests holds as it is written there. */
public final class ReadmeTest {
    private static final Path PAGE = Path.of("README.md");
    private static final Path DOCUMENT = Path.of("../shared/DOC.md");
    private static final Path TESTS = Path.of("src/test/java");
    private static final String MAIN_FILE = "src/main/java/OrderedVersions.java";
    private static final String NEW_OBJECT = "OrderedVersions x = new OrderedVersions();";
    private static final Pattern EXAMPLE_CALL = Pattern.compile("(?:int (\\w+) = )?x\\.(\\w+\\(.*\\)); +// (-?\\w+)(?:: .*)?");
    private static final Pattern FACE_CALL = Pattern.compile("^    public \\w+ (\\w+\\(.*?\\))(?: throws (.*))?;$", Pattern.MULTILINE);
    private static final Pattern NAMED_TEST = Pattern.compile("- `(\\w+Test)`: .*");
    private static final Pattern NAMED_EXCEPTION = Pattern.compile("\\b([A-Z][a-z]+[A-Z]\\w+):");

    private static final Checks CHECKS = new Checks("ReadmeTest");

    public static void main(String[] args) throws IOException, InterruptedException {
        List<String> page = Files.readAllLines(PAGE);
        List<String> example = exampleIn(page);
        checkExampleAnswers(example);
        checkCallTable(page);
        checkNamedTests(page);
        checkSampleRun(page);
        Path work = Files.createTempDirectory("readme");
        try {
            checkExampleCompiles(example, work);
            checkCommands(page, work);
        } finally {
            removeAll(work);
        }
        CHECKS.end();
    }

    private static List<String> exampleIn(List<String> page) {
        int start = page.indexOf("```java");
        int length = page.subList(start, page.size()).indexOf("```");
        return page.subList(start + 1, start + length);
    }

    private static void checkExampleAnswers(List<String> example) {
        CHECKS.due("the example's first line", example.get(0), NEW_OBJECT);
        OrderedVersions x = new OrderedVersions();
        Map<String, String> named = new HashMap<>();
        Set<String> made = new TreeSet<>();
        for (String line : example.subList(1, example.size())) {
            Matcher parts = EXAMPLE_CALL.matcher(line);
            CHECKS.due("a call and its answer: " + line, parts.matches(), true);
            if (parts.matches()) {
                Row row = Row.ofLine(withNumbers(parts.group(2), named) + " -> " + parts.group(3)).get(0);
                CHECKS.due(line, Calls.outcome(x, row.name(), row.arguments()).toString(), row.due());
                made.add(row.name());
                if (parts.group(1) != null) {
                    named.put(parts.group(1), parts.group(3));
                }
            }
        }
        CHECKS.due("calls of the face that the example makes", made.size(), 23);
    }

    private static String withNumbers(String call, Map<String, String> named) {
        String text = call;
        for (Map.Entry<String, String> each : named.entrySet()) {
            text = text.replaceAll("\\b" + each.getKey() + "\\b", each.getValue());
        }
        return text;
    }

    /** The table has the document's calls in their order, each with the exceptions that it names, in theirs. */
    private static void checkCallTable(List<String> page) throws IOException {
        List<String> told = new ArrayList<>();
        for (String line : page) {
            if (line.startsWith("| `")) {
                String[] cells = line.split("\\|");
                told.add(cells[1].trim().replace("`", "") + NAMED_EXCEPTION.matcher(cells[3]).results()
                        .map(found -> found.group(1)).toList());
            }
        }
        List<String> due = new ArrayList<>();
        Matcher face = FACE_CALL.matcher(Files.readString(DOCUMENT));
        while (face.find()) {
            String exceptions = face.group(2) == null ? "" : face.group(2).replace("Exception", "");
            due.add(face.group(1).replaceAll("(int|boolean) ", "") + "[" + exceptions + "]");
        }
        CHECKS.due("the table of calls", told, due);
    }

    private static void checkNamedTests(List<String> page) throws IOException {
        Set<String> named = new TreeSet<>();
        for (String line : page) {
            Matcher test = NAMED_TEST.matcher(line);
            if (test.matches()) {
                named.add(test.group(1) + ".java");
            }
        }
        Set<String> there = new TreeSet<>();
        try (Stream<Path> files = Files.list(TESTS)) {
            files.map(file -> file.getFileName().toString()).filter(name -> name.endsWith("Test.java")).forEach(there::add);
        }
        CHECKS.due("the tests that the page names", named, there);
    }

    private static void checkSampleRun(List<String> page) {
        OrderedVersions x = new OrderedVersions();
        List<Row> rows = new ArrayList<>();
        for (String line : page) {
            if (line.startsWith("    ") && line.contains(" -> ")) {
                rows.addAll(Row.ofLine(line.trim()));
            }
        }
        CHECKS.due("the sample has calls", rows.isEmpty(), false);
        for (Row row : rows) {
            CHECKS.due("the sample: " + row, Calls.outcome(x, row.name(), row.arguments()).toString(), row.due());
        }
    }

    private static void checkExampleCompiles(List<String> example, Path work) throws IOException, InterruptedException {
        String body = String.join("\n", example);
        Path file = work.resolve("Example.java");
        Files.writeString(file, "class Example { static void use() {\n" + body + "\n} }\n");
        CHECKS.due("the example compiles", exitCode(work, "javac --release 17 -d \"$1\" " + MAIN_FILE + " \"$1/Example.java\""), 0);
    }

    /** The page's commands as they stand there, but for the folder that they write to. */
    private static void checkCommands(List<String> page, Path work) throws IOException, InterruptedException {
        int made = 0;
        for (String line : page) {
            if (line.matches("    javac? .*")) {
                CHECKS.due(line.trim(), exitCode(work, line.replace(" build ", " \"$1\" ")), 0);
                made++;
            }
        }
        CHECKS.due("commands on the page", made, 4);
        CHECKS.due("the page's script can be run", page.contains("    .ci/run") && Files.isExecutable(Path.of(".ci/run")), true);
    }

    private static int exitCode(Path work, String command) throws IOException, InterruptedException {
        ProcessBuilder builder = new ProcessBuilder("sh", "-c", command, "sh", work.toString());
        Path told = work.resolve("told.txt");
        builder.redirectErrorStream(true).redirectOutput(told.toFile());
        int code = builder.start().waitFor();
        if (code != 0) {
            System.out.print(Files.readString(told));
        }
        return code;
    }

    private static void removeAll(Path folder) throws IOException {
        try (Stream<Path> files = Files.walk(folder)) {
            files.sorted(Comparator.reverseOrder()).map(Path::toFile).forEach(File::delete);
        }
    }
}
