import java.util.Arrays;
import java.util.Random;

/**
 * Long runs of drawn calls, the same for each seed, answered by OrderedVersions and by PlainModel.
 * A throwing call that changed something shows in the calls behind it.
 */
public final class RandomRunsTest {
    private static final int RUNS = 240;
    private static final int CALLS = 512;
    private static final String[] NAMES = {
        "put", "put", "put", "remove", "remove", "load", "cut", "merge", "snapshot", "snapshot", "release",
        "restore", "size", "get", "get", "rank", "select", "near", "sum", "greatest", "differs",
        "firstDifference", "open", "open", "next", "next", "skip", "peek", "peek", "close", "astray"
    };
    private static final int[] EDGES = {
        Integer.MIN_VALUE, Integer.MIN_VALUE + 1, -1, 0, 1, Integer.MAX_VALUE - 1, Integer.MAX_VALUE
    };

    private final Random random;
    private final int spread;
    private final boolean crowded;

    private RandomRunsTest(int seed) {
        random = new Random(seed);
        spread = new int[] {6, 40, 700, 3000}[seed % 4];
        crowded = seed / 4 % 2 == 1;
    }

    public static void main(String[] args) {
        Checks checks = new Checks("RandomRunsTest");
        for (int seed = 0; seed < RUNS; seed++) {
            new RandomRunsTest(seed).compare(checks, seed);
        }
        checks.end();
    }

    private void compare(Checks checks, int seed) {
        OrderedVersions real = new OrderedVersions();
        PlainModel model = new PlainModel();
        for (int call = 0; call < CALLS; call++) {
            String name = NAMES[random.nextInt(NAMES.length)];
            int[] a = draw(name);
            String what = "run " + seed + ", call " + call + ": " + name + Arrays.toString(a);
            checks.due(what, Calls.outcome(real, name, a), Calls.outcome(model, name, a));
        }
    }

    private int[] draw(String name) {
        switch (name) {
            case "put": return new int[] {key(), value()};
            case "remove": return new int[] {key()};
            case "load": return drawLoad();
            case "cut": return drawCut();
            case "merge": case "release": case "restore": case "size": return new int[] {version()};
            case "get": case "rank": return new int[] {version(), key()};
            case "select": return new int[] {version(), random.nextInt(spread + 3) - 1};
            case "near": case "open": return new int[] {version(), key(), random.nextInt(2)};
            case "sum": case "greatest": return new int[] {version(), key(), key()};
            case "differs": case "firstDifference": return new int[] {version(), version()};
            case "next": case "peek": return new int[] {cursor()};
            case "close": return new int[] {random.nextInt(3) == 0 ? cursor() : -1};
            case "skip": return new int[] {cursor(), random.nextInt(6) - 1};
            default: return new int[0];
        }
    }

    private int key() {
        return random.nextInt(20) == 0 ? EDGES[random.nextInt(EDGES.length)] : random.nextInt(spread) - spread / 3;
    }

    private int value() {
        return random.nextInt(20) == 0 ? EDGES[random.nextInt(EDGES.length)] : random.nextInt(7) - 3;
    }

    private int version() {
        int drawn = random.nextInt(20);
        return drawn == 0 ? -1 : drawn < 8 ? 0 : random.nextInt(15);
    }

    private int cursor() {
        return random.nextInt(10) - 1;
    }

    /** In crowded runs the map is loaded near its limit, so that put and merge meet it. */
    private int[] drawLoad() {
        int n = crowded ? 590 + random.nextInt(12) : random.nextInt(spread) % 320;
        int first = random.nextInt(8) == 0 ? Integer.MAX_VALUE - random.nextInt(700) : key();
        int step = random.nextInt(10) == 0 ? random.nextInt(5_000_000) - 10 : 1 + random.nextInt(3);
        return new int[] {first, step, n, value(), value()};
    }

    /** Mostly short ranges, so that the maps do not stay empty. */
    private int[] drawCut() {
        int from = key();
        return random.nextInt(4) == 0 ? new int[] {from, key()} : new int[] {from, from + random.nextInt(9) - 1};
    }
}
