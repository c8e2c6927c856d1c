import java.util.ArrayList;
import java.util.List;
import java.util.function.Supplier;

/**
 * All that the face can tell of an object behind a run of calls. The object is made again from the run
 * as often as needed, since none may be asked more calls than the document promises to answer.
 */
final class Seen {
    static final int MOST_CALLS = 512;
    /** A longer run leaves too few calls to look with. */
    static final int LONGEST_RUN = 300;

    private static final int MOST_KEYS = 600;
    private static final int MOST_SNAPSHOTS = 12;
    private static final int MOST_CURSORS = 8;

    private final Supplier<Object> maker;
    private final List<Row> run;
    private final List<String> told = new ArrayList<>();
    private Object target;
    private int calls;

    private Seen(Supplier<Object> maker, List<Row> run) {
        this.maker = maker;
        this.run = run;
        makeAgain();
    }

    static List<String> behind(Supplier<Object> maker, List<Row> run) {
        Seen seen = new Seen(maker, run);
        for (int version = -1; version <= MOST_SNAPSHOTS + 1; version++) {
            seen.lookAtVersion(version);
        }
        seen.tell("astray");
        for (int cursor = -1; cursor <= MOST_CURSORS; cursor++) {
            seen.goToTheEnd(cursor);
        }
        seen.makeAgain();
        seen.tell("snapshot");
        seen.tell("open", 0, 0, 0);
        return seen.told;
    }

    /** An empty text if the same can be seen both times. */
    static String firstChange(List<String> before, List<String> after) {
        int at = 0;
        while (at < before.size() && at < after.size() && before.get(at).equals(after.get(at))) {
            at++;
        }
        String had = at < before.size() ? before.get(at) : "";
        String has = at < after.size() ? after.get(at) : "";
        return had.equals(has) ? "" : "'" + had + "' became '" + has + "'";
    }

    private void makeAgain() {
        target = maker.get();
        for (Row row : run) {
            Calls.outcome(target, row.name(), row.arguments());
        }
        calls = run.size();
    }

    private Object ask(String name, int... arguments) {
        calls++;
        return Calls.outcome(target, name, arguments);
    }

    private Object tell(String name, int... arguments) {
        Object answer = ask(name, arguments);
        told.add(new Row(name, arguments, "") + " " + answer);
        return answer;
    }

    private void lookAtVersion(int version) {
        int size = tell("size", version) instanceof Integer found ? found : 0;
        for (int i = 0; i < size && i < MOST_KEYS; i++) {
            if (calls + 2 > MOST_CALLS) {
                makeAgain();
            }
            if (tell("select", version, i) instanceof Integer key) {
                tell("get", version, key);
            }
        }
    }

    private void goToTheEnd(int cursor) {
        makeAgain();
        Object key = 0;
        for (int gone = 0; key instanceof Integer && gone <= MOST_KEYS; gone++) {
            if (calls + 2 > MOST_CALLS) {
                makeAgain();
                ask("skip", cursor, gone);
            }
            tell("peek", cursor);
            key = tell("next", cursor);
        }
    }
}
