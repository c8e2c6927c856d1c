import java.lang.reflect.Array;
import java.lang.reflect.Field;

/**
 * Promise 24 from inside: astray is 0 because nothing is wrong, not because it does not look.
 * What is kept is spoilt by hand here, as no call of the face can spoil it.
 */
public final class AstrayTest {
    private static final Checks CHECKS = new Checks("AstrayTest");

    private interface Spoiling {
        void spoil(OrderedVersions x) throws ReflectiveOperationException;
    }

    public static void main(String[] args) throws ReflectiveOperationException {
        wrongBy(0, "nothing", x -> { });
        wrongBy(1, "first keys of the present map", x -> Array.setInt(field(version(x, 0), "keys"), 0, 99));
        wrongBy(1, "the same key twice", x -> Array.setInt(field(version(x, 0), "keys"), 3, 2));
        wrongBy(1, "last key of a snapshot", x -> Array.setInt(field(version(x, 1), "keys"), 3, -5));
        wrongBy(1, "a key in a cursor's map", x -> Array.setInt(field(walk(x), "keys"), 1, 50));
        wrongBy(2, "two places of one map", x -> {
            Array.setInt(field(version(x, 0), "keys"), 0, 99);
            Array.setInt(field(version(x, 0), "keys"), 3, -5);
        });
        wrongBy(1, "a count below 0", x -> setInt(version(x, 1), "count", -1));
        wrongBy(1, "a count beyond the limit", x -> setInt(version(x, 1), "count", 601));
        wrongBy(1, "keys that nothing has any more", x -> setInt(version(x, 2), "count", 4));
        wrongBy(1, "a cursor behind its map", x -> setInt(cursor(x, 0), "at", 5));
        wrongBy(0, "a cursor at the end above", x -> setInt(cursor(x, 0), "at", 4));
        wrongBy(0, "a cursor at the end below", x -> setInt(cursor(x, 0), "at", -1));
        wrongBy(1, "a cursor before its map", x -> setInt(cursor(x, 0), "at", -2));
        wrongBy(1, "no present map", x -> Array.setBoolean(field(x, "versionTaken"), 0, false), 0);
        CHECKS.end();
    }

    private static void wrongBy(int want, String what, Spoiling spoiling) throws ReflectiveOperationException {
        wrongBy(want, what, spoiling, 4);
    }

    /** The keys 0, 1, 2 and on in the present map, in a snapshot and under a cursor; another snapshot is gone. */
    private static void wrongBy(int want, String what, Spoiling spoiling, int keys)
            throws ReflectiveOperationException {
        OrderedVersions x = new OrderedVersions();
        x.load(0, 1, keys, 1, 0);
        x.snapshot();
        x.snapshot();
        x.release(2);
        x.open(1, 2, false);
        spoiling.spoil(x);
        CHECKS.due(what, x.astray(), want);
    }

    private static Object version(OrderedVersions x, int number) throws ReflectiveOperationException {
        return Array.get(field(x, "versions"), number);
    }

    private static Object cursor(OrderedVersions x, int number) throws ReflectiveOperationException {
        return Array.get(field(x, "cursors"), number);
    }

    private static Object walk(OrderedVersions x) throws ReflectiveOperationException {
        return field(cursor(x, 0), "map");
    }

    private static Object field(Object owner, String name) throws ReflectiveOperationException {
        return opened(owner, name).get(owner);
    }

    private static void setInt(Object owner, String name, int value) throws ReflectiveOperationException {
        opened(owner, name).setInt(owner, value);
    }

    private static Field opened(Object owner, String name) throws ReflectiveOperationException {
        Field field = owner.getClass().getDeclaredField(name);
        field.setAccessible(true);
        return field;
    }
}
