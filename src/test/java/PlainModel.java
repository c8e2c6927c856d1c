import java.util.ArrayList;
import java.util.List;
import java.util.Map;
import java.util.NoSuchElementException;
import java.util.TreeMap;
import java.util.TreeSet;

/** The document said once more with the library's TreeMap: what OrderedVersions is compared with. */
final class PlainModel {
    private static final int MOST_KEYS = 600;

    private static final class Walk {
        final List<Integer> keys = new ArrayList<>();
        final List<Integer> values = new ArrayList<>();
    }

    private final TreeMap<Integer, TreeMap<Integer, Integer>> versions = new TreeMap<>();
    private final TreeMap<Integer, Walk> walks = new TreeMap<>();

    PlainModel() {
        versions.put(0, new TreeMap<>());
    }

    boolean put(int key, int value) {
        if (!present().containsKey(key) && present().size() == MOST_KEYS) {
            throw new UnsupportedOperationException();
        }
        return present().put(key, value) == null;
    }

    int remove(int key) {
        if (!present().containsKey(key)) {
            throw new NoSuchElementException();
        }
        return present().remove(key);
    }

    int load(int first, int step, int n, int times, int more) {
        if (n < 0 || n > MOST_KEYS || step < 1) {
            throw new IllegalArgumentException();
        }
        TreeMap<Integer, Integer> loaded = new TreeMap<>();
        long key = first;
        for (int i = 0; i < n; i++) {
            if (key > Integer.MAX_VALUE) {
                throw new IllegalArgumentException();
            }
            loaded.put((int) key, (int) (times * key + more));
            key += step;
        }
        int had = present().size();
        versions.put(0, loaded);
        return had;
    }

    int cut(int from, int to) {
        int had = present().size();
        present().keySet().removeIf(key -> key >= from && key <= to);
        return had - present().size();
    }

    int merge(int version) {
        TreeMap<Integer, Integer> both = new TreeMap<>(map(version));
        both.putAll(present());
        if (both.size() > MOST_KEYS) {
            throw new UnsupportedOperationException();
        }
        int added = both.size() - present().size();
        versions.put(0, both);
        return added;
    }

    int snapshot() {
        if (versions.size() == 13) {
            throw new UnsupportedOperationException();
        }
        int number = leastFree(versions);
        versions.put(number, new TreeMap<>(present()));
        return number;
    }

    int release(int snapshot) {
        checkSnapshot(snapshot);
        versions.remove(snapshot);
        return versions.size() - 1;
    }

    int restore(int snapshot) {
        checkSnapshot(snapshot);
        versions.put(0, new TreeMap<>(map(snapshot)));
        return present().size();
    }

    int size(int version) {
        return map(version).size();
    }

    int get(int version, int key) {
        return some(map(version).get(key));
    }

    int rank(int version, int key) {
        return map(version).headMap(key).size();
    }

    int select(int version, int rank) {
        TreeMap<Integer, Integer> map = map(version);
        return some(rank < 0 ? null : map.keySet().stream().skip(rank).findFirst().orElse(null));
    }

    int near(int version, int key, boolean above) {
        return some(above ? map(version).ceilingKey(key) : map(version).floorKey(key));
    }

    long sum(int version, int from, int to) {
        long total = 0;
        for (Map.Entry<Integer, Integer> entry : map(version).entrySet()) {
            if (entry.getKey() >= from && entry.getKey() <= to) {
                total += entry.getValue();
            }
        }
        return total;
    }

    int greatest(int version, int from, int to) {
        TreeSet<Integer> seen = new TreeSet<>();
        for (Map.Entry<Integer, Integer> entry : map(version).entrySet()) {
            if (entry.getKey() >= from && entry.getKey() <= to) {
                seen.add(entry.getValue());
            }
        }
        return seen.last();
    }

    int differs(int version, int other) {
        return differences(version, other).size();
    }

    int firstDifference(int version, int other) {
        return differences(version, other).first();
    }

    int open(int version, int key, boolean down) {
        TreeMap<Integer, Integer> source = map(version);
        if (walks.size() == 8) {
            throw new UnsupportedOperationException();
        }
        Walk walk = new Walk();
        Map<Integer, Integer> ahead =
                down ? source.headMap(key, true).descendingMap() : source.tailMap(key, true);
        walk.keys.addAll(ahead.keySet());
        walk.values.addAll(ahead.values());
        int number = leastFree(walks);
        walks.put(number, walk);
        return number;
    }

    int next(int cursor) {
        Walk walk = walkAhead(cursor);
        walk.values.remove(0);
        return walk.keys.remove(0);
    }

    int skip(int cursor, int n) {
        Walk walk = walk(cursor);
        if (n < 0) {
            throw new IllegalArgumentException();
        }
        int going = Math.min(n, walk.keys.size());
        walk.keys.subList(0, going).clear();
        walk.values.subList(0, going).clear();
        return going;
    }

    int peek(int cursor) {
        return walkAhead(cursor).values.get(0);
    }

    int close(int cursor) {
        walk(cursor);
        walks.remove(cursor);
        return walks.size();
    }

    int astray() {
        return 0;
    }

    int countSnapshots() {
        return versions.size() - 1;
    }

    int countCursors() {
        return walks.size();
    }

    private TreeMap<Integer, Integer> present() {
        return versions.get(0);
    }

    private TreeMap<Integer, Integer> map(int version) {
        if (!versions.containsKey(version)) {
            throw new IndexOutOfBoundsException();
        }
        return versions.get(version);
    }

    private void checkSnapshot(int snapshot) {
        if (snapshot == 0 || !versions.containsKey(snapshot)) {
            throw new IndexOutOfBoundsException();
        }
    }

    private Walk walk(int cursor) {
        if (!walks.containsKey(cursor)) {
            throw new IndexOutOfBoundsException();
        }
        return walks.get(cursor);
    }

    private Walk walkAhead(int cursor) {
        Walk walk = walk(cursor);
        if (walk.keys.isEmpty()) {
            throw new NoSuchElementException();
        }
        return walk;
    }

    private TreeSet<Integer> differences(int version, int other) {
        TreeMap<Integer, Integer> one = map(version);
        TreeMap<Integer, Integer> two = map(other);
        TreeSet<Integer> keys = new TreeSet<>(one.keySet());
        keys.addAll(two.keySet());
        keys.removeIf(key -> one.containsKey(key) && one.get(key).equals(two.get(key)));
        return keys;
    }

    private static int some(Integer found) {
        if (found == null) {
            throw new NoSuchElementException();
        }
        return found;
    }

    private static int leastFree(Map<Integer, ?> taken) {
        int number = 0;
        while (taken.containsKey(number)) {
            number++;
        }
        return number;
    }
}
