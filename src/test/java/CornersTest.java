import java.util.ArrayList;
import java.util.Arrays;
import java.util.LinkedHashMap;
import java.util.List;
import java.util.Map;
import java.util.Set;
import java.util.function.Supplier;

/**
 * Every call with every mix of arguments from the corners of what can be given, on objects in corner states.
 * The answer is PlainModel's. Behind a call that can change something, all that can be seen is PlainModel's
 * too, and behind a refused one it is what it was.
 */
public final class CornersTest {
    private static final int LEAST = Integer.MIN_VALUE;
    private static final int MOST = Integer.MAX_VALUE;

    private static final int[] INTS = {LEAST, LEAST + 1, -1, 0, 1, 2, 598, 599, 600, MOST - 1, MOST};
    private static final int[] VALUES = {LEAST, 0, MOST};
    private static final int[] FIRSTS = {LEAST, 0, MOST - 599, MOST};
    private static final int[] STEPS = {LEAST, 0, 1, MOST};
    private static final int[] COUNTS = {LEAST, -1, 0, 1, 2, 599, 600, 601, MOST};
    private static final int[] VERSIONS = {LEAST, -1, 0, 1, 2, 11, 12, 13, MOST};
    private static final int[] CURSORS = {LEAST, -1, 0, 1, 2, 3, 4, 5, 6, 7, 8, MOST};
    private static final int[] FLAGS = {0, 1};
    private static final int[] ONE = {MOST};

    private static final Map<String, int[][]> CORNERS = corners();
    private static final Map<String, List<Row>> STATES = states();
    private static final Set<String> CHANGING = Set.of("put", "remove", "load", "cut", "merge", "snapshot",
            "release", "restore", "open", "next", "skip", "close");
    private static final Supplier<Object> REAL = OrderedVersions::new;
    private static final Supplier<Object> MODEL = PlainModel::new;

    private static Map<String, int[][]> corners() {
        Map<String, int[][]> all = new LinkedHashMap<>();
        all.put("put", new int[][] {INTS, VALUES});
        all.put("remove", new int[][] {INTS});
        all.put("load", new int[][] {FIRSTS, STEPS, COUNTS, VALUES, ONE});
        all.put("cut", new int[][] {INTS, INTS});
        all.put("merge", new int[][] {VERSIONS});
        all.put("snapshot", new int[][] {});
        all.put("release", new int[][] {VERSIONS});
        all.put("restore", new int[][] {VERSIONS});
        all.put("size", new int[][] {VERSIONS});
        all.put("get", new int[][] {VERSIONS, INTS});
        all.put("rank", new int[][] {VERSIONS, INTS});
        all.put("select", new int[][] {VERSIONS, INTS});
        all.put("near", new int[][] {VERSIONS, INTS, FLAGS});
        all.put("sum", new int[][] {VERSIONS, INTS, INTS});
        all.put("greatest", new int[][] {VERSIONS, INTS, INTS});
        all.put("differs", new int[][] {VERSIONS, VERSIONS});
        all.put("firstDifference", new int[][] {VERSIONS, VERSIONS});
        all.put("open", new int[][] {VERSIONS, INTS, FLAGS});
        all.put("next", new int[][] {CURSORS});
        all.put("skip", new int[][] {CURSORS, COUNTS});
        all.put("peek", new int[][] {CURSORS});
        all.put("close", new int[][] {CURSORS});
        all.put("astray", new int[][] {});
        return all;
    }

    private static Map<String, List<Row>> states() {
        String fewKeys = "put(MIN, 5) -> true; put(-1, MIN) -> true; put(0, 0) -> true; put(1, MAX) -> true; "
                + "put(MAX, 7) -> true";
        String allSnapshots = "snapshot() -> 1; remove(0) -> 0; snapshot() -> 2; put(1, 5) -> false; "
                + "snapshot() -> 3 .. 11; put(1, 6) -> false; put(0, 0) -> true; snapshot() -> 12";
        String allCursors = "open(0, MIN, false) -> 0; open(0, MAX, true) -> 1; open(0, 1, false) -> 2; "
                + "open(0, 0, true) -> 3; open(0, 2, true) -> 4; open(0, MAX, false) -> 5; open(0, MIN, true) -> 6; "
                + "open(0, MIN, false) -> 7; skip(0, 1) -> 1; skip(1, 2) -> 2; next(4) -> 1; next(7) -> MIN";
        Map<String, List<Row>> all = new LinkedHashMap<>();
        all.put("a new object", List.of());
        all.put("a few keys", rows(fewKeys));
        all.put("a full map", rows("load(0, 1, 600, MAX, MIN) -> 0"));
        all.put("one key short of full", rows("load(0, 1, 599, 1, 5) -> 0; snapshot() -> 1; load(1, 1, 599, 1, 0) -> 599"));
        all.put("all snapshots", rows(fewKeys, allSnapshots, "cut(MIN, MAX) -> 5"));
        all.put("all cursors", rows(fewKeys, allCursors));
        all.put("all room taken", rows(fewKeys, "snapshot() -> 1; load(2, 1, 595, 1, 0) -> 5; merge(1) -> 5; release(1) -> 0",
                allSnapshots, allCursors.replace("next(4) -> 1", "next(4) -> 2")));
        all.put("all room given back", rows(fewKeys, allSnapshots, allCursors, "release(1 .. 12) -> 11 .. 0",
                "close(0 .. 7) -> 7 .. 0", "cut(MIN, MAX) -> 5"));
        return all;
    }

    private static List<Row> rows(String... parts) {
        return Row.ofLine(String.join("; ", parts));
    }

    /** One call in one state, of which all that could be seen before it is known. */
    private record Case(String state, List<Row> run, List<String> before, Row call) {
    }

    public static void main(String[] args) {
        Checks checks = new Checks("CornersTest");
        List<Case> cases = new ArrayList<>();
        for (Map.Entry<String, List<Row>> state : STATES.entrySet()) {
            List<Row> run = state.getValue();
            // A state is what its name says only if the calls that lead to it answer as written there.
            for (int i = 0; i < run.size(); i++) {
                Row row = run.get(i);
                checks.due(state.getKey() + ": " + row, answerBehind(REAL, run.subList(0, i), row), row.due());
            }
            List<String> before = Seen.behind(REAL, run);
            CORNERS.forEach((name, corners) -> {
                for (int[] given : mixes(corners)) {
                    cases.add(new Case(state.getKey(), run, before, new Row(name, given, "")));
                }
            });
        }
        List<String> faults = cases.parallelStream().map(CornersTest::fault).toList();
        for (int i = 0; i < cases.size(); i++) {
            checks.due(cases.get(i).state + ": " + cases.get(i).call, faults.get(i), "");
        }
        checks.end();
    }

    private static List<int[]> mixes(int[][] corners) {
        List<int[]> found = List.of(new int[0]);
        for (int[] column : corners) {
            List<int[]> longer = new ArrayList<>();
            for (int[] start : found) {
                for (int corner : column) {
                    int[] mix = Arrays.copyOf(start, start.length + 1);
                    mix[start.length] = corner;
                    longer.add(mix);
                }
            }
            found = longer;
        }
        return found;
    }

    /** What is wrong with the answer or behind it; an empty text if nothing is. */
    private static String fault(Case one) {
        String due = answerBehind(MODEL, one.run, one.call);
        String got = answerBehind(REAL, one.run, one.call);
        if (!got.equals(due)) {
            return "answered " + got + " for " + due;
        }
        if (!CHANGING.contains(one.call.name())) {
            return "";
        }
        List<Row> run = new ArrayList<>(one.run);
        run.add(one.call);
        boolean refused = got.startsWith("throws.");
        return Seen.firstChange(refused ? one.before : Seen.behind(MODEL, run), Seen.behind(REAL, run));
    }

    private static String answerBehind(Supplier<Object> maker, List<Row> run, Row call) {
        Object target = maker.get();
        for (Row row : run) {
            Calls.outcome(target, row.name(), row.arguments());
        }
        return Calls.outcome(target, call.name(), call.arguments()).toString();
    }
}
