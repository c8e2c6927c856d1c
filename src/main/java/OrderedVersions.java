import java.util.NoSuchElementException;

/**
 * An ordered map from ints to ints that keeps its past.
 *
 * <p>Every map that there can be at once (the present one, the snapshots, and one for each cursor)
 * has its rows from the constructor on. A snapshot or a cursor takes a copy into its own rows, so
 * no change of the present map can reach it, and no call makes an object.
 */
public final class OrderedVersions {
    private static final int MOST_KEYS = 600;
    private static final int MOST_SNAPSHOTS = 12;
    private static final int MOST_CURSORS = 8;
    private static final int FIRST_SNAPSHOT = 1;
    private static final int FIRST_CURSOR = 0;

    private final Table present;
    private final Table[] versions;
    private final boolean[] versionTaken;
    private final Cursor[] cursors;
    private final boolean[] cursorTaken;

    public OrderedVersions() {
        present = new Table();
        versions = new Table[FIRST_SNAPSHOT + MOST_SNAPSHOTS];
        versionTaken = new boolean[versions.length];
        versions[0] = present;
        versionTaken[0] = true;
        for (int i = FIRST_SNAPSHOT; i < versions.length; i++) {
            versions[i] = new Table();
        }
        cursors = new Cursor[FIRST_CURSOR + MOST_CURSORS];
        cursorTaken = new boolean[cursors.length];
        for (int i = FIRST_CURSOR; i < cursors.length; i++) {
            cursors[i] = new Cursor();
        }
    }

    public boolean put(int key, int value) throws UnsupportedOperationException {
        int at = present.countBelow(key);
        if (present.hasAt(at, key)) {
            present.values[at] = value;
            return false;
        }
        if (present.count >= MOST_KEYS) {
            throw new UnsupportedOperationException();
        }
        present.insertAt(at, key, value);
        return true;
    }

    public int remove(int key) throws NoSuchElementException {
        int at = present.countBelow(key);
        if (!present.hasAt(at, key)) {
            throw new NoSuchElementException();
        }
        int value = present.values[at];
        present.dropBetween(at, at + 1);
        return value;
    }

    public int load(int first, int step, int n, int times, int more) throws IllegalArgumentException {
        if (n < 0 || n > MOST_KEYS || step < 1) {
            throw new IllegalArgumentException();
        }
        long last = first + (long) step * (n - 1);
        if (last > Integer.MAX_VALUE) {
            throw new IllegalArgumentException();
        }
        int had = present.count;
        present.fill(first, step, n, times, more);
        return had;
    }

    public int cut(int from, int to) {
        int start = present.countBelow(from);
        int end = present.countNotAbove(to);
        if (start >= end) {
            return 0;
        }
        present.dropBetween(start, end);
        return end - start;
    }

    public int merge(int version) throws IndexOutOfBoundsException, UnsupportedOperationException {
        Table other = mapOf(version);
        int added = other.count - other.countShared(present, false);
        if (present.count + added > MOST_KEYS) {
            throw new UnsupportedOperationException();
        }
        present.takeOver(other, added);
        return added;
    }

    public int snapshot() throws UnsupportedOperationException {
        int number = leastFree(versionTaken, FIRST_SNAPSHOT);
        if (number == versionTaken.length) {
            throw new UnsupportedOperationException();
        }
        versions[number].copyFrom(present);
        versionTaken[number] = true;
        return number;
    }

    public int release(int snapshot) throws IndexOutOfBoundsException {
        snapshotOf(snapshot).count = 0;
        versionTaken[snapshot] = false;
        return countTaken(versionTaken, FIRST_SNAPSHOT);
    }

    public int restore(int snapshot) throws IndexOutOfBoundsException {
        present.copyFrom(snapshotOf(snapshot));
        return present.count;
    }

    public int size(int version) throws IndexOutOfBoundsException {
        return mapOf(version).count;
    }

    public int get(int version, int key) throws IndexOutOfBoundsException, NoSuchElementException {
        Table map = mapOf(version);
        int at = map.countBelow(key);
        if (!map.hasAt(at, key)) {
            throw new NoSuchElementException();
        }
        return map.values[at];
    }

    public int rank(int version, int key) throws IndexOutOfBoundsException {
        return mapOf(version).countBelow(key);
    }

    public int select(int version, int rank) throws IndexOutOfBoundsException, NoSuchElementException {
        return keyAt(mapOf(version), rank);
    }

    public int near(int version, int key, boolean above)
            throws IndexOutOfBoundsException, NoSuchElementException {
        Table map = mapOf(version);
        return keyAt(map, map.nearest(key, above));
    }

    public long sum(int version, int from, int to) throws IndexOutOfBoundsException {
        Table map = mapOf(version);
        int end = map.countNotAbove(to);
        long total = 0;
        for (int i = map.countBelow(from); i < end; i++) {
            total += map.values[i];
        }
        return total;
    }

    public int greatest(int version, int from, int to)
            throws IndexOutOfBoundsException, NoSuchElementException {
        Table map = mapOf(version);
        int start = map.countBelow(from);
        int end = map.countNotAbove(to);
        if (start >= end) {
            throw new NoSuchElementException();
        }
        int best = map.values[start];
        for (int i = start + 1; i < end; i++) {
            best = Math.max(best, map.values[i]);
        }
        return best;
    }

    public int differs(int version, int other) throws IndexOutOfBoundsException {
        Table one = mapOf(version);
        Table two = mapOf(other);
        // A key of both is counted in both sizes: it goes once as shared, and once more if alike.
        return one.count + two.count - one.countShared(two, false) - one.countShared(two, true);
    }

    public int firstDifference(int version, int other)
            throws IndexOutOfBoundsException, NoSuchElementException {
        Table one = mapOf(version);
        Table two = mapOf(other);
        int at = one.countAlikeAtStart(two);
        if (at >= one.count) {
            return keyAt(two, at);
        }
        if (at >= two.count) {
            return keyAt(one, at);
        }
        return Math.min(one.keys[at], two.keys[at]);
    }

    public int open(int version, int key, boolean down)
            throws IndexOutOfBoundsException, UnsupportedOperationException {
        Table map = mapOf(version);
        int number = leastFree(cursorTaken, FIRST_CURSOR);
        if (number == cursorTaken.length) {
            throw new UnsupportedOperationException();
        }
        cursors[number].start(map, key, down);
        cursorTaken[number] = true;
        return number;
    }

    public int next(int cursor) throws IndexOutOfBoundsException, NoSuchElementException {
        Cursor walker = cursorOf(cursor);
        int key = keyAt(walker.map, walker.at);
        walker.goOver(1);
        return key;
    }

    public int skip(int cursor, int n) throws IndexOutOfBoundsException, IllegalArgumentException {
        Cursor walker = cursorOf(cursor);
        if (n < 0) {
            throw new IllegalArgumentException();
        }
        int going = Math.min(n, walker.countLeft());
        walker.goOver(going);
        return going;
    }

    public int peek(int cursor) throws IndexOutOfBoundsException, NoSuchElementException {
        Cursor walker = cursorOf(cursor);
        if (!walker.map.isWithin(walker.at)) {
            throw new NoSuchElementException();
        }
        return walker.map.values[walker.at];
    }

    public int close(int cursor) throws IndexOutOfBoundsException {
        cursorOf(cursor).stop();
        cursorTaken[cursor] = false;
        return countTaken(cursorTaken, FIRST_CURSOR);
    }

    public int astray() {
        int wrong = versionTaken[0] ? 0 : 1;
        for (int i = 0; i < versions.length; i++) {
            wrong += versions[i].countWrong(versionTaken[i]);
        }
        for (int i = 0; i < cursors.length; i++) {
            wrong += cursors[i].countWrong(cursorTaken[i]);
        }
        return wrong;
    }

    private Table mapOf(int version) {
        if (!isTaken(versionTaken, version)) {
            throw new IndexOutOfBoundsException();
        }
        return versions[version];
    }

    private Table snapshotOf(int snapshot) {
        if (snapshot < FIRST_SNAPSHOT) {
            throw new IndexOutOfBoundsException();
        }
        return mapOf(snapshot);
    }

    private Cursor cursorOf(int cursor) {
        if (!isTaken(cursorTaken, cursor)) {
            throw new IndexOutOfBoundsException();
        }
        return cursors[cursor];
    }

    private static int keyAt(Table map, int at) {
        if (!map.isWithin(at)) {
            throw new NoSuchElementException();
        }
        return map.keys[at];
    }

    private static boolean isTaken(boolean[] taken, int number) {
        return number >= 0 && number < taken.length && taken[number];
    }

    /** The least free number from one on; the row's length if all are taken. */
    private static int leastFree(boolean[] taken, int from) {
        for (int i = from; i < taken.length; i++) {
            if (!taken[i]) {
                return i;
            }
        }
        return taken.length;
    }

    private static int countTaken(boolean[] taken, int from) {
        int found = 0;
        for (int i = from; i < taken.length; i++) {
            if (taken[i]) {
                found++;
            }
        }
        return found;
    }

    /** One map: its keys in rising order, each with its value at the same place. */
    private static final class Table {
        final int[] keys = new int[MOST_KEYS];
        final int[] values = new int[MOST_KEYS];
        int count;

        boolean isWithin(int at) {
            return at >= 0 && at < count;
        }

        boolean hasAt(int at, int key) {
            return isWithin(at) && keys[at] == key;
        }

        int countBelow(int key) {
            int at = 0;
            while (at < count && keys[at] < key) {
                at++;
            }
            return at;
        }

        int countNotAbove(int key) {
            int at = countBelow(key);
            return hasAt(at, key) ? at + 1 : at;
        }

        /** The place of the key nearest to an int on one side of it; outside the row if there is none. */
        int nearest(int key, boolean above) {
            return above ? countBelow(key) : countNotAbove(key) - 1;
        }

        void insertAt(int at, int key, int value) {
            System.arraycopy(keys, at, keys, at + 1, count - at);
            System.arraycopy(values, at, values, at + 1, count - at);
            keys[at] = key;
            values[at] = value;
            count++;
        }

        void dropBetween(int start, int end) {
            System.arraycopy(keys, end, keys, start, count - end);
            System.arraycopy(values, end, values, start, count - end);
            count -= end - start;
        }

        void fill(int first, int step, int n, int times, int more) {
            for (int i = 0; i < n; i++) {
                int key = first + step * i;
                keys[i] = key;
                values[i] = times * key + more;
            }
            count = n;
        }

        void copyFrom(Table other) {
            System.arraycopy(other.keys, 0, keys, 0, other.count);
            System.arraycopy(other.values, 0, values, 0, other.count);
            count = other.count;
        }

        /** How many keys another map has too; on alike, only those with the same value in both. */
        int countShared(Table other, boolean alike) {
            int found = 0;
            int at = 0;
            for (int i = 0; i < count; i++) {
                while (at < other.count && other.keys[at] < keys[i]) {
                    at++;
                }
                if (other.hasAt(at, keys[i]) && (!alike || other.values[at] == values[i])) {
                    found++;
                }
            }
            return found;
        }

        /** Up to which place two maps have the same keys with the same values. */
        int countAlikeAtStart(Table other) {
            int both = Math.min(count, other.count);
            int at = 0;
            while (at < both && keys[at] == other.keys[at] && values[at] == other.values[at]) {
                at++;
            }
            return at;
        }

        /**
         * Takes in the keys of another map that are missing here; the caller has counted them.
         * Filled from the end, so that no key is written over before it has been moved.
         */
        void takeOver(Table other, int missing) {
            int mine = count - 1;
            int at = mine + missing;
            for (int theirs = other.count - 1; theirs >= 0; theirs--) {
                int key = other.keys[theirs];
                while (mine >= 0 && keys[mine] > key) {
                    keys[at] = keys[mine];
                    values[at] = values[mine];
                    mine--;
                    at--;
                }
                if (!hasAt(mine, key)) {
                    keys[at] = key;
                    values[at] = other.values[theirs];
                    at--;
                }
            }
            count += missing;
        }

        /** How many places are wrong; a map that nothing has must be empty. */
        int countWrong(boolean taken) {
            if (!taken) {
                return count == 0 ? 0 : 1;
            }
            if (count < 0 || count > MOST_KEYS) {
                return 1;
            }
            int wrong = 0;
            for (int i = 1; i < count; i++) {
                if (keys[i - 1] >= keys[i]) {
                    wrong++;
                }
            }
            return wrong;
        }
    }

    /** A walk over a map's own copy, so that it goes on as the version was when it was opened. */
    private static final class Cursor {
        final Table map = new Table();
        boolean down;
        int at;

        void start(Table source, int key, boolean downward) {
            map.copyFrom(source);
            down = downward;
            at = map.nearest(key, !downward);
        }

        void stop() {
            map.count = 0;
            at = 0;
        }

        int countLeft() {
            return down ? at + 1 : map.count - at;
        }

        /** The caller has seen that so many keys are left. */
        void goOver(int n) {
            at += down ? -n : n;
        }

        int countWrong(boolean taken) {
            boolean lost = at < -1 || at > map.count;
            return map.countWrong(taken) + (lost ? 1 : 0);
        }
    }
}
