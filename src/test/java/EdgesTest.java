import java.io.IOException;
import java.nio.file.Files;
import java.nio.file.Path;
import java.util.ArrayList;
import java.util.LinkedHashMap;
import java.util.List;
import java.util.Map;
import java.util.Set;
import java.util.TreeSet;
import java.util.function.Supplier;
import java.util.stream.Stream;

/**
 * The runs under src/test/edges: for each sentence of the document the boundary cases that it names.
 * Behind a call that throws or only asks, nothing may have changed; at a run's end all that can be seen
 * is as PlainModel has it; and no sentence of the document is without a run.
 */
public final class EdgesTest {
    private static final Path DOCUMENT = Path.of("../shared/DOC.md");
    private static final Path EDGES = Path.of("src/test/edges");
    private static final Set<String> ASKING = Set.of("size", "get", "rank", "select", "near", "sum", "greatest",
            "differs", "firstDifference", "peek", "astray");
    private static final Supplier<Object> REAL = OrderedVersions::new;
    private static final Supplier<Object> MODEL = PlainModel::new;

    private static final Checks CHECKS = new Checks("EdgesTest");

    /** One run on a new object, for one sentence of one section of the document. */
    private record Edge(String section, String sentence, String title, List<Row> rows) {
        String place() {
            return section + " > " + sentence + " # " + title;
        }
    }

    public static void main(String[] args) throws IOException {
        List<Edge> edges = edges();
        for (Edge edge : edges) {
            CHECKS.due(edge.place() + ": calls", edge.rows.size() <= Seen.MOST_CALLS, true);
            checkAnswers(edge, "", REAL.get());
            checkAnswers(edge, "the model: ", MODEL.get());
            checkNothingChanged(edge);
            checkEnd(edge);
        }
        checkSentences(edges, sentencesBySection());
        checkArguments(edges);
        checkStates(edges);
        CHECKS.end();
    }

    private static void checkAnswers(Edge edge, String whose, Object target) {
        for (Row row : edge.rows) {
            String got = Calls.outcome(target, row.name(), row.arguments()).toString();
            CHECKS.due(edge.place() + ": " + whose + row, got, row.due());
        }
    }

    private static void checkNothingChanged(Edge edge) {
        List<String> before = null;
        for (int i = 0; i < edge.rows.size() && i < Seen.LONGEST_RUN; i++) {
            Row row = edge.rows.get(i);
            if (!row.throwsAny() && !ASKING.contains(row.name())) {
                before = null;
                continue;
            }
            if (before == null) {
                before = Seen.behind(REAL, edge.rows.subList(0, i));
            }
            List<String> after = Seen.behind(REAL, edge.rows.subList(0, i + 1));
            CHECKS.due(edge.place() + ": behind " + row, Seen.firstChange(before, after), "");
            before = after;
        }
    }

    private static void checkEnd(Edge edge) {
        if (edge.rows.size() <= Seen.LONGEST_RUN) {
            String change = Seen.firstChange(Seen.behind(MODEL, edge.rows), Seen.behind(REAL, edge.rows));
            CHECKS.due(edge.place() + ": at the end", change, "");
        }
    }

    /** Every sentence has a run, and where it names an exception, a run in which its call throws that. */
    private static void checkSentences(List<Edge> edges, Map<String, List<String>> document) {
        for (Edge edge : edges) {
            boolean known = document.getOrDefault(edge.section, List.of()).contains(edge.sentence);
            CHECKS.due("the document has: " + edge.section + " > " + edge.sentence, known, true);
        }
        for (Map.Entry<String, List<String>> section : document.entrySet()) {
            for (String sentence : section.getValue()) {
                boolean tested = edges.stream().anyMatch(edge -> isTestOf(edge, section.getKey(), sentence));
                CHECKS.due("there is a run for: " + section.getKey() + " > " + sentence, tested, true);
            }
        }
    }

    private static boolean isTestOf(Edge edge, String section, String sentence) {
        if (!edge.section.equals(section) || !edge.sentence.equals(sentence)) {
            return false;
        }
        if (!sentence.matches("[A-Z][a-z]+[A-Z]\\w+: .*")) {
            return true;
        }
        String name = section.substring(section.indexOf(": ") + 2);
        String due = "throws." + sentence.substring(0, sentence.indexOf(':')) + "Exception";
        return edge.rows.stream().anyMatch(row -> row.name().equals(name) && row.due().equals(due));
    }

    /** The least and the greatest int have been given wherever an int can be given, and either flag. */
    private static void checkArguments(List<Edge> edges) {
        Set<String> given = new TreeSet<>();
        Set<String> names = new TreeSet<>();
        for (Edge edge : edges) {
            for (Row row : edge.rows) {
                names.add(row.name());
                for (int i = 0; i < row.arguments().length; i++) {
                    given.add(row.name() + " " + i + " " + row.arguments()[i]);
                }
            }
        }
        for (String name : names) {
            Class<?>[] types = Calls.parameters(name);
            for (int i = 0; i < types.length; i++) {
                boolean flag = types[i] == boolean.class;
                int least = flag ? 0 : Integer.MIN_VALUE;
                int greatest = flag ? 1 : Integer.MAX_VALUE;
                CHECKS.due(name + " is given the least " + i, given.contains(name + " " + i + " " + least), true);
                CHECKS.due(name + " is given the greatest " + i, given.contains(name + " " + i + " " + greatest), true);
            }
        }
        CHECKS.due("calls of the face that are made", names.size(), 23);
    }

    /** Every call has been made on an empty and on a full present map, with no and all snapshots and cursors. */
    private static void checkStates(List<Edge> edges) {
        Set<String> met = new TreeSet<>();
        Set<String> names = new TreeSet<>();
        for (Edge edge : edges) {
            PlainModel model = new PlainModel();
            for (Row row : edge.rows) {
                names.add(row.name());
                met.add(row.name() + " at " + model.size(0) + " keys");
                met.add(row.name() + " at " + model.countSnapshots() + " snapshots");
                met.add(row.name() + " at " + model.countCursors() + " cursors");
                Calls.outcome(model, row.name(), row.arguments());
            }
        }
        for (String name : names) {
            for (String state : List.of("0 keys", "600 keys", "0 snapshots", "12 snapshots", "0 cursors", "8 cursors")) {
                CHECKS.due(name + " is called at " + state, met.contains(name + " at " + state), true);
            }
        }
    }

    private static List<Edge> edges() throws IOException {
        List<Edge> found = new ArrayList<>();
        try (Stream<Path> files = Files.list(EDGES)) {
            for (Path file : files.filter(path -> path.toString().endsWith(".txt")).sorted().toList()) {
                found.addAll(edgesIn(Files.readAllLines(file)));
            }
        }
        return found;
    }

    /** '##' begins a section, '>' a sentence of it, '#' a run; the other lines are the run's calls. */
    private static List<Edge> edgesIn(List<String> lines) {
        List<Edge> found = new ArrayList<>();
        String section = "";
        String sentence = "";
        List<Row> rows = new ArrayList<>();
        for (String line : lines) {
            if (line.startsWith("## ")) {
                section = line.substring(3);
            } else if (line.startsWith("> ")) {
                sentence = line.substring(2);
            } else if (line.startsWith("# ")) {
                rows = new ArrayList<>();
                found.add(new Edge(section, sentence, line.substring(2), rows));
            } else if (!line.isBlank()) {
                rows.addAll(Row.ofLine(line));
            }
        }
        return found;
    }

    /** The sentences of 'What it is', of 'Terms' and of each promise, there without the call's signature. */
    private static Map<String, List<String>> sentencesBySection() throws IOException {
        Map<String, List<String>> found = new LinkedHashMap<>();
        String section = "";
        for (String line : Files.readAllLines(DOCUMENT)) {
            if (line.startsWith("## ")) {
                section = line.substring(3);
            } else if (!line.isBlank() && section.matches("What it is|Terms|Promise \\d+: .*")) {
                String text = line.replaceFirst("^`[^`]*`: ", "");
                List<String> sentences = found.computeIfAbsent(section, key -> new ArrayList<>());
                sentences.addAll(List.of(text.split("(?<=\\.) (?=[A-Z])")));
            }
        }
        return found;
    }
}
