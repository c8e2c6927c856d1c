import java.util.NoSuchElementException;

/** Every promise of the document by hand: ordinary inputs, the edges that it names, wrong inputs. */
public final class PromisesTest {
    private static final int LEAST = Integer.MIN_VALUE;
    private static final int MOST = Integer.MAX_VALUE;
    private static final Class<IndexOutOfBoundsException> NO_SUCH_NUMBER = IndexOutOfBoundsException.class;
    private static final Class<NoSuchElementException> NO_ELEMENT = NoSuchElementException.class;
    private static final Class<UnsupportedOperationException> FULL = UnsupportedOperationException.class;
    private static final Class<IllegalArgumentException> WRONG = IllegalArgumentException.class;

    private static final Checks CHECKS = new Checks("PromisesTest");

    public static void main(String[] args) {
        promise1NewObject();
        promise2Put();
        promise2PutAtTheLimit();
        promise3Remove();
        promise4Load();
        promise4LoadOfWrongInputs();
        promise5Cut();
        promise6Merge();
        promise6MergeAtTheLimit();
        promise7Snapshot();
        promise8Release();
        promise9Restore();
        promise10Size();
        promise11Get();
        promise12Rank();
        promise13Select();
        promise14Near();
        promise15Sum();
        promise16Greatest();
        promise17Differs();
        promise18FirstDifference();
        promise19Open();
        promise19OpenAtTheLimit();
        promise20Next();
        promise20NextInTheMapAsItWas();
        promise21Skip();
        promise22Peek();
        promise23Close();
        promise24Astray();
        CHECKS.end();
    }

    private static void due(String what, Object got, Object want) {
        CHECKS.due(what, got, want);
    }

    private static void dueThrow(String what, Checks.Call call, Class<? extends RuntimeException> want) {
        CHECKS.dueThrow(what, call, want);
    }

    /** The keys -10, 0, 10, 20 with the values 3, -4, 5, -6. */
    private static OrderedVersions four() {
        OrderedVersions x = new OrderedVersions();
        x.put(10, 5);
        x.put(-10, 3);
        x.put(20, -6);
        x.put(0, -4);
        return x;
    }

    /** The keys 0, 2, .. 1198: as many as a map may have. */
    private static OrderedVersions full() {
        OrderedVersions x = new OrderedVersions();
        x.load(0, 2, 600, 1, 0);
        return x;
    }

    private static String pairs(OrderedVersions x, int version) {
        StringBuilder text = new StringBuilder();
        for (int i = 0; i < x.size(version); i++) {
            int key = x.select(version, i);
            text.append(key).append('=').append(x.get(version, key)).append(' ');
        }
        return text.toString().trim();
    }

    private static String keysAhead(OrderedVersions x, int cursor) {
        StringBuilder text = new StringBuilder();
        Object key = Checks.outcome(() -> x.next(cursor));
        while (key instanceof Integer) {
            text.append(key).append(' ');
            key = Checks.outcome(() -> x.next(cursor));
        }
        return text.toString().trim();
    }

    private static void promise1NewObject() {
        OrderedVersions x = new OrderedVersions();
        due("1 size", x.size(0), 0);
        for (int i = -1; i < 14; i++) {
            int number = i;
            if (number != 0) {
                dueThrow("1 version " + number, () -> x.size(number), NO_SUCH_NUMBER);
            }
            dueThrow("1 cursor " + number, () -> x.close(number), NO_SUCH_NUMBER);
        }
        due("1 first snapshot", x.snapshot(), 1);
        due("1 first cursor", x.open(0, 0, false), 0);
        due("1 another object has a map of its own", new OrderedVersions().put(1, 1), true);
        due("1 untouched by it", x.size(0), 0);
    }

    private static void promise2Put() {
        OrderedVersions x = new OrderedVersions();
        due("2 new", x.put(5, 1), true);
        due("2 again", x.put(5, 2), false);
        due("2 again with the same value", x.put(5, 2), false);
        due("2 least", x.put(LEAST, MOST), true);
        due("2 most", x.put(MOST, LEAST), true);
        due("2 between", x.put(-5, 0), true);
        due("2 order", pairs(x, 0), LEAST + "=" + MOST + " -5=0 5=2 " + MOST + "=" + LEAST);
    }

    private static void promise2PutAtTheLimit() {
        OrderedVersions x = full();
        dueThrow("2 one too many", () -> x.put(1, 1), FULL);
        dueThrow("2 one too many at the end", () -> x.put(MOST, 1), FULL);
        due("2 nothing came", x.size(0), 600);
        due("2 nothing moved", x.select(0, 1), 2);
        due("2 a known key may change when full", x.put(2, 77), false);
        due("2 it did", x.get(0, 2), 77);
        x.remove(0);
        due("2 place for one", x.put(MOST, 1), true);
        dueThrow("2 and for no other", () -> x.put(0, 0), FULL);
        OrderedVersions y = new OrderedVersions();
        y.load(0, 1, 599, 1, 0);
        due("2 the 600th", y.put(-1, 0), true);
        dueThrow("2 the 601st", () -> y.put(-2, 0), FULL);
    }

    private static void promise3Remove() {
        OrderedVersions x = four();
        dueThrow("3 between", () -> x.remove(5), NO_ELEMENT);
        dueThrow("3 above all", () -> x.remove(MOST), NO_ELEMENT);
        dueThrow("3 below all", () -> x.remove(LEAST), NO_ELEMENT);
        due("3 nothing went", x.size(0), 4);
        due("3 middle", x.remove(0), -4);
        dueThrow("3 twice", () -> x.remove(0), NO_ELEMENT);
        due("3 left", pairs(x, 0), "-10=3 10=5 20=-6");
        due("3 first", x.remove(-10), 3);
        due("3 last", x.remove(20), -6);
        due("3 only one", x.remove(10), 5);
        dueThrow("3 empty", () -> x.remove(10), NO_ELEMENT);
        due("3 comes again", x.put(10, 1), true);
    }

    private static void promise4Load() {
        OrderedVersions x = four();
        due("4 had four", x.load(-1, 3, 3, 10, 7), 4);
        due("4 pairs", pairs(x, 0), "-1=-3 2=27 5=57");
        due("4 had three", x.load(7, 1, 0, 1, 1), 3);
        due("4 none", x.size(0), 0);
        due("4 had none", x.load(LEAST, MOST, 3, 2, 1), 0);
        due("4 running over", pairs(x, 0), LEAST + "=1 -1=-1 2147483646=-3");
        due("4 had three keys", x.load(MOST, MOST, 1, 1, 1), 3);
        due("4 more runs over", pairs(x, 0), MOST + "=" + LEAST);
        due("4 none at the end of ints", x.load(MOST, MOST, 0, 1, 1), 1);
        due("4 up to the last int", x.load(MOST - 599, 1, 600, 0, 9), 0);
        due("4 its last key", x.select(0, 599), MOST);
        due("4 had 600", x.load(0, 1, 1, 0, 0), 600);
    }

    private static void promise4LoadOfWrongInputs() {
        OrderedVersions x = four();
        dueThrow("4 n below 0", () -> x.load(0, 1, -1, 1, 0), WRONG);
        dueThrow("4 n least", () -> x.load(0, 1, LEAST, 1, 0), WRONG);
        dueThrow("4 n above 600", () -> x.load(0, 1, 601, 1, 0), WRONG);
        dueThrow("4 step 0", () -> x.load(0, 0, 5, 1, 0), WRONG);
        dueThrow("4 step 0 and no key", () -> x.load(0, 0, 0, 1, 0), WRONG);
        dueThrow("4 step below 0", () -> x.load(0, -1, 1, 1, 0), WRONG);
        dueThrow("4 one beyond ints", () -> x.load(MOST, 1, 2, 1, 0), WRONG);
        dueThrow("4 last beyond ints", () -> x.load(MOST - 598, 1, 600, 1, 0), WRONG);
        dueThrow("4 far beyond ints", () -> x.load(0, MOST, 600, 1, 0), WRONG);
        dueThrow("4 beyond ints from the least on", () -> x.load(LEAST, MOST, 4, 1, 0), WRONG);
        due("4 nothing changed", pairs(x, 0), "-10=3 0=-4 10=5 20=-6");
    }

    private static void promise5Cut() {
        OrderedVersions x = four();
        due("5 upside down", x.cut(20, -10), 0);
        due("5 upside down by one", x.cut(10, 9), 0);
        due("5 between", x.cut(1, 9), 0);
        due("5 below all", x.cut(LEAST, -11), 0);
        due("5 above all", x.cut(21, MOST), 0);
        due("5 nothing went", x.size(0), 4);
        due("5 both ends go", x.cut(0, 10), 2);
        due("5 left", pairs(x, 0), "-10=3 20=-6");
        due("5 one key", x.cut(20, 20), 1);
        due("5 the rest", x.cut(LEAST, MOST), 1);
        due("5 empty", x.cut(LEAST, MOST), 0);
        OrderedVersions y = full();
        due("5 all but one", y.cut(1, MOST), 599);
        due("5 that one", pairs(y, 0), "0=0");
    }

    private static void promise6Merge() {
        OrderedVersions x = four();
        x.snapshot();
        due("6 nothing is missing", x.merge(1), 0);
        due("6 present with itself", x.merge(0), 0);
        x.cut(0, 10);
        x.put(-10, 99);
        x.put(15, 1);
        due("6 two come", x.merge(1), 2);
        due("6 own values stay", pairs(x, 0), "-10=99 0=-4 10=5 15=1 20=-6");
        due("6 the snapshot stays", pairs(x, 1), "-10=3 0=-4 10=5 20=-6");
        x.load(0, 1, 0, 0, 0);
        due("6 into nothing", x.merge(1), 4);
        due("6 all of it", pairs(x, 0), "-10=3 0=-4 10=5 20=-6");
        x.load(30, 1, 2, 0, 0);
        due("6 all below", x.merge(1), 4);
        due("6 in order", pairs(x, 0), "-10=3 0=-4 10=5 20=-6 30=0 31=0");
        x.load(-30, 1, 1, 0, 0);
        due("6 all above", x.merge(1), 4);
        due("6 in order too", pairs(x, 0), "-30=0 -10=3 0=-4 10=5 20=-6");
        dueThrow("6 no snapshot 2", () -> x.merge(2), NO_SUCH_NUMBER);
        dueThrow("6 no version -1", () -> x.merge(-1), NO_SUCH_NUMBER);
        dueThrow("6 no version 13", () -> x.merge(13), NO_SUCH_NUMBER);
    }

    private static void promise6MergeAtTheLimit() {
        OrderedVersions x = full();
        x.snapshot();
        x.remove(1198);
        x.put(1, 1);
        dueThrow("6 one too many", () -> x.merge(1), FULL);
        due("6 nothing came", x.rank(0, MOST), 600);
        due("6 nothing moved", x.firstDifference(0, 1), 1);
        dueThrow("6 no such version is said first", () -> x.merge(2), NO_SUCH_NUMBER);
        x.remove(1);
        due("6 just 600", x.merge(1), 1);
        due("6 all alike", x.differs(0, 1), 0);
        due("6 full of itself", x.merge(0), 0);
        x.load(1, 2, 300, 1, 0);
        dueThrow("6 far too many", () -> x.merge(1), FULL);
        x.cut(LEAST, MOST);
        due("6 all 600", x.merge(1), 600);
    }

    private static void promise7Snapshot() {
        OrderedVersions x = four();
        due("7 first", x.snapshot(), 1);
        x.put(0, 8);
        x.remove(20);
        due("7 second", x.snapshot(), 2);
        x.load(1, 1, 1, 1, 1);
        due("7 first stays", pairs(x, 1), "-10=3 0=-4 10=5 20=-6");
        due("7 second stays", pairs(x, 2), "-10=3 0=8 10=5");
        due("7 present goes on", pairs(x, 0), "1=2");
        for (int i = 3; i <= 12; i++) {
            due("7 number " + i, x.snapshot(), i);
        }
        dueThrow("7 a thirteenth", () -> x.snapshot(), FULL);
        x.release(7);
        x.release(4);
        due("7 least free", x.snapshot(), 4);
        due("7 next free", x.snapshot(), 7);
        dueThrow("7 full again", () -> x.snapshot(), FULL);
        due("7 the least one still stands", pairs(x, 1), "-10=3 0=-4 10=5 20=-6");
        OrderedVersions empty = new OrderedVersions();
        due("7 of nothing", empty.snapshot(), 1);
        due("7 has nothing", empty.size(1), 0);
    }

    private static void promise8Release() {
        OrderedVersions x = four();
        x.snapshot();
        x.snapshot();
        x.snapshot();
        dueThrow("8 the present map is no snapshot", () -> x.release(0), NO_SUCH_NUMBER);
        dueThrow("8 below", () -> x.release(-1), NO_SUCH_NUMBER);
        dueThrow("8 not made", () -> x.release(4), NO_SUCH_NUMBER);
        dueThrow("8 beyond all", () -> x.release(13), NO_SUCH_NUMBER);
        dueThrow("8 most", () -> x.release(MOST), NO_SUCH_NUMBER);
        due("8 two are left", x.release(2), 2);
        dueThrow("8 gone", () -> x.size(2), NO_SUCH_NUMBER);
        dueThrow("8 twice", () -> x.release(2), NO_SUCH_NUMBER);
        due("8 others stay", x.size(1) + x.size(3), 8);
        due("8 one is left", x.release(1), 1);
        due("8 none is left", x.release(3), 0);
        due("8 present stays", x.size(0), 4);
    }

    private static void promise9Restore() {
        OrderedVersions x = four();
        x.snapshot();
        x.load(0, 1, 9, 0, 0);
        due("9 back", x.restore(1), 4);
        due("9 as it was", pairs(x, 0), "-10=3 0=-4 10=5 20=-6");
        x.put(0, 1);
        x.put(11, 1);
        due("9 the snapshot stays behind", pairs(x, 1), "-10=3 0=-4 10=5 20=-6");
        due("9 once more", x.restore(1), 4);
        due("9 in full", x.differs(0, 1), 0);
        dueThrow("9 the present map is no snapshot", () -> x.restore(0), NO_SUCH_NUMBER);
        dueThrow("9 below", () -> x.restore(-1), NO_SUCH_NUMBER);
        dueThrow("9 not made", () -> x.restore(2), NO_SUCH_NUMBER);
        dueThrow("9 beyond all", () -> x.restore(13), NO_SUCH_NUMBER);
        x.release(1);
        dueThrow("9 gone", () -> x.restore(1), NO_SUCH_NUMBER);
        due("9 nothing changed", x.size(0), 4);
    }

    private static void promise10Size() {
        OrderedVersions x = four();
        x.snapshot();
        x.remove(0);
        due("10 present", x.size(0), 3);
        due("10 snapshot", x.size(1), 4);
        due("10 full", full().size(0), 600);
        dueThrow("10 not made", () -> x.size(2), NO_SUCH_NUMBER);
        dueThrow("10 below", () -> x.size(-1), NO_SUCH_NUMBER);
        dueThrow("10 least", () -> x.size(LEAST), NO_SUCH_NUMBER);
        dueThrow("10 beyond all", () -> x.size(13), NO_SUCH_NUMBER);
    }

    private static void promise11Get() {
        OrderedVersions x = four();
        x.snapshot();
        x.put(0, 44);
        x.remove(10);
        x.put(5, 55);
        due("11 present", x.get(0, 0), 44);
        due("11 snapshot", x.get(1, 0), -4);
        due("11 only there", x.get(1, 10), 5);
        dueThrow("11 only there, so not here", () -> x.get(0, 10), NO_ELEMENT);
        dueThrow("11 only here, so not there", () -> x.get(1, 5), NO_ELEMENT);
        dueThrow("11 above all", () -> x.get(0, MOST), NO_ELEMENT);
        dueThrow("11 below all", () -> x.get(0, LEAST), NO_ELEMENT);
        dueThrow("11 no such version", () -> x.get(2, 0), NO_SUCH_NUMBER);
        dueThrow("11 neither version nor key", () -> x.get(-1, 1), NO_SUCH_NUMBER);
    }

    private static void promise12Rank() {
        OrderedVersions x = four();
        x.snapshot();
        x.remove(-10);
        due("12 below all", x.rank(1, LEAST), 0);
        due("12 first", x.rank(1, -10), 0);
        due("12 behind first", x.rank(1, -9), 1);
        due("12 last", x.rank(1, 20), 3);
        due("12 above all", x.rank(1, 21), 4);
        due("12 most", x.rank(1, MOST), 4);
        due("12 present", x.rank(0, 20), 2);
        due("12 empty", new OrderedVersions().rank(0, 5), 0);
        OrderedVersions y = full();
        y.remove(1198);
        y.put(MOST, 0);
        due("12 the last int itself is not below it", y.rank(0, MOST), 599);
        dueThrow("12 no such version", () -> x.rank(2, 0), NO_SUCH_NUMBER);
        dueThrow("12 below", () -> x.rank(-1, 0), NO_SUCH_NUMBER);
    }

    private static void promise13Select() {
        OrderedVersions x = four();
        x.snapshot();
        x.remove(-10);
        due("13 first", x.select(1, 0), -10);
        due("13 last", x.select(1, 3), 20);
        due("13 present", x.select(0, 0), 0);
        dueThrow("13 below", () -> x.select(1, -1), NO_ELEMENT);
        dueThrow("13 least", () -> x.select(1, LEAST), NO_ELEMENT);
        dueThrow("13 as many as there are", () -> x.select(1, 4), NO_ELEMENT);
        dueThrow("13 gone", () -> x.select(0, 3), NO_ELEMENT);
        dueThrow("13 most", () -> x.select(1, MOST), NO_ELEMENT);
        dueThrow("13 empty", () -> new OrderedVersions().select(0, 0), NO_ELEMENT);
        dueThrow("13 full", () -> full().select(0, 600), NO_ELEMENT);
        due("13 last of 600", full().select(0, 599), 1198);
        dueThrow("13 no such version", () -> x.select(2, -1), NO_SUCH_NUMBER);
    }

    private static void promise14Near() {
        OrderedVersions x = four();
        x.snapshot();
        x.remove(0);
        due("14 itself from below", x.near(1, 0, true), 0);
        due("14 itself from above", x.near(1, 0, false), 0);
        due("14 above", x.near(1, 1, true), 10);
        due("14 not above", x.near(1, 9, false), 0);
        due("14 present above", x.near(0, 0, true), 10);
        due("14 present not above", x.near(0, 0, false), -10);
        due("14 first of all", x.near(1, LEAST, true), -10);
        due("14 last of all", x.near(1, MOST, false), 20);
        dueThrow("14 none above", () -> x.near(1, 21, true), NO_ELEMENT);
        dueThrow("14 none below", () -> x.near(1, -11, false), NO_ELEMENT);
        dueThrow("14 empty above", () -> new OrderedVersions().near(0, 0, true), NO_ELEMENT);
        dueThrow("14 empty below", () -> new OrderedVersions().near(0, 0, false), NO_ELEMENT);
        dueThrow("14 no such version", () -> x.near(2, 21, true), NO_SUCH_NUMBER);
        x.put(LEAST, 1);
        x.put(MOST, 1);
        due("14 least", x.near(0, LEAST, false), LEAST);
        due("14 most", x.near(0, MOST, true), MOST);
        due("14 full, none above", Checks.outcome(() -> full().near(0, 1199, true)), "throws.NoSuchElementException");
    }

    private static void promise15Sum() {
        OrderedVersions x = four();
        x.snapshot();
        x.put(0, 100);
        due("15 all", x.sum(1, LEAST, MOST), -2L);
        due("15 present", x.sum(0, LEAST, MOST), 102L);
        due("15 both ends", x.sum(1, 0, 10), 1L);
        due("15 just inside", x.sum(1, 1, 10), 5L);
        due("15 just outside", x.sum(1, 0, 9), -4L);
        due("15 one", x.sum(1, 20, 20), -6L);
        due("15 none", x.sum(1, 11, 19), 0L);
        due("15 upside down", x.sum(1, 10, 0), 0L);
        due("15 wholly upside down", x.sum(1, MOST, LEAST), 0L);
        OrderedVersions y = new OrderedVersions();
        y.load(0, 1, 600, 0, MOST);
        due("15 beyond ints", y.sum(0, 0, 599), 600L * MOST);
        y.load(0, 1, 600, 0, LEAST);
        due("15 below ints", y.sum(0, 0, 599), 600L * LEAST);
        dueThrow("15 no such version", () -> x.sum(2, 1, 0), NO_SUCH_NUMBER);
        dueThrow("15 below", () -> x.sum(-1, 0, 1), NO_SUCH_NUMBER);
    }

    private static void promise16Greatest() {
        OrderedVersions x = four();
        x.snapshot();
        x.put(-10, 9);
        due("16 all", x.greatest(1, LEAST, MOST), 5);
        due("16 present", x.greatest(0, LEAST, MOST), 9);
        due("16 first", x.greatest(1, -10, 0), 3);
        due("16 last", x.greatest(1, 11, 20), -6);
        due("16 both ends", x.greatest(1, 0, 10), 5);
        due("16 below zero", x.greatest(1, 0, 9), -4);
        dueThrow("16 none", () -> x.greatest(1, 1, 9), NO_ELEMENT);
        dueThrow("16 upside down", () -> x.greatest(1, 10, 0), NO_ELEMENT);
        dueThrow("16 above all", () -> x.greatest(1, 21, MOST), NO_ELEMENT);
        dueThrow("16 empty", () -> new OrderedVersions().greatest(0, LEAST, MOST), NO_ELEMENT);
        dueThrow("16 no such version", () -> x.greatest(2, 1, 0), NO_SUCH_NUMBER);
        x.load(0, 1, 3, 0, LEAST);
        due("16 the least int", x.greatest(0, 0, 2), LEAST);
        due("16 last of 600", full().greatest(0, 1197, MOST), 1198);
    }

    private static void promise17Differs() {
        OrderedVersions x = four();
        x.snapshot();
        due("17 alike", x.differs(0, 1), 0);
        due("17 with itself", x.differs(1, 1), 0);
        x.put(0, 1);
        due("17 another value", x.differs(0, 1), 1);
        x.remove(-10);
        due("17 one gone", x.differs(0, 1), 2);
        x.put(30, 0);
        x.put(5, 0);
        due("17 two more", x.differs(0, 1), 4);
        due("17 the other way", x.differs(1, 0), 4);
        x.load(0, 1, 0, 0, 0);
        due("17 with nothing", x.differs(0, 1), 4);
        due("17 nothing with it", x.differs(1, 0), 4);
        x.load(1, 2, 600, 0, 0);
        x.snapshot();
        x.load(0, 2, 600, 0, 0);
        due("17 most", x.differs(0, 2), 1200);
        dueThrow("17 no first", () -> x.differs(3, 0), NO_SUCH_NUMBER);
        dueThrow("17 no second", () -> x.differs(0, 3), NO_SUCH_NUMBER);
        dueThrow("17 neither, though the same", () -> x.differs(5, 5), NO_SUCH_NUMBER);
        dueThrow("17 below", () -> x.differs(0, -1), NO_SUCH_NUMBER);
    }

    private static void promise18FirstDifference() {
        OrderedVersions x = four();
        x.snapshot();
        dueThrow("18 alike", () -> x.firstDifference(0, 1), NO_ELEMENT);
        dueThrow("18 with itself", () -> x.firstDifference(1, 1), NO_ELEMENT);
        dueThrow("18 nothing with nothing", () -> new OrderedVersions().firstDifference(0, 0), NO_ELEMENT);
        x.remove(20);
        due("18 one less at the end", x.firstDifference(0, 1), 20);
        due("18 one less at the end, the other way", x.firstDifference(1, 0), 20);
        x.restore(1);
        x.put(30, 0);
        due("18 one more at the end", x.firstDifference(0, 1), 30);
        due("18 the other way", x.firstDifference(1, 0), 30);
        x.put(10, 0);
        due("18 another value", x.firstDifference(0, 1), 10);
        x.put(5, 0);
        due("18 one more between", x.firstDifference(0, 1), 5);
        due("18 one more between, the other way", x.firstDifference(1, 0), 5);
        x.remove(0);
        due("18 one gone", x.firstDifference(0, 1), 0);
        due("18 one gone, the other way", x.firstDifference(1, 0), 0);
        x.put(LEAST, 0);
        due("18 least", x.firstDifference(1, 0), LEAST);
        x.load(0, 1, 0, 0, 0);
        due("18 with nothing", x.firstDifference(0, 1), -10);
        due("18 nothing with it", x.firstDifference(1, 0), -10);
        OrderedVersions y = full();
        y.snapshot();
        dueThrow("18 full and alike", () -> y.firstDifference(0, 1), NO_ELEMENT);
        dueThrow("18 no first", () -> x.firstDifference(2, 0), NO_SUCH_NUMBER);
        dueThrow("18 no second", () -> x.firstDifference(0, 2), NO_SUCH_NUMBER);
        dueThrow("18 neither, though the same", () -> x.firstDifference(2, 2), NO_SUCH_NUMBER);
    }

    private static void promise19Open() {
        OrderedVersions x = four();
        due("19 up from a key", x.open(0, 0, false), 0);
        due("19 up from between", x.open(0, 1, false), 1);
        due("19 up from above all", x.open(0, 21, false), 2);
        due("19 down from a key", x.open(0, 0, true), 3);
        due("19 down from between", x.open(0, 9, true), 4);
        due("19 down from below all", x.open(0, -11, true), 5);
        due("19 up from the least", x.open(0, LEAST, false), 6);
        due("19 down from the most", x.open(0, MOST, true), 7);
        due("19 keys up from a key", keysAhead(x, 0), "0 10 20");
        due("19 keys up from between", keysAhead(x, 1), "10 20");
        due("19 keys up from above all", keysAhead(x, 2), "");
        due("19 keys down from a key", keysAhead(x, 3), "0 -10");
        due("19 keys down from between", keysAhead(x, 4), "0 -10");
        due("19 keys down from below all", keysAhead(x, 5), "");
        due("19 keys up from the least", keysAhead(x, 6), "-10 0 10 20");
        due("19 keys down from the most", keysAhead(x, 7), "20 10 0 -10");
        OrderedVersions empty = new OrderedVersions();
        due("19 on nothing", empty.open(0, 0, false), 0);
        due("19 on nothing, down", empty.open(0, 0, true), 1);
        due("19 nothing up", keysAhead(empty, 0), "");
        due("19 nothing down", keysAhead(empty, 1), "");
    }

    private static void promise19OpenAtTheLimit() {
        OrderedVersions x = four();
        dueThrow("19 no such version", () -> x.open(1, 0, false), NO_SUCH_NUMBER);
        dueThrow("19 below", () -> x.open(-1, 0, false), NO_SUCH_NUMBER);
        for (int i = 0; i < 8; i++) {
            due("19 number " + i, x.open(0, 0, false), i);
        }
        dueThrow("19 a ninth", () -> x.open(0, 0, false), FULL);
        dueThrow("19 no such version is said first", () -> x.open(1, 0, false), NO_SUCH_NUMBER);
        x.close(6);
        x.close(2);
        due("19 least free", x.open(0, 20, true), 2);
        due("19 next free", x.open(0, 20, true), 6);
        dueThrow("19 full again", () -> x.open(0, 0, true), FULL);
        due("19 others stand where they stood", keysAhead(x, 0), "0 10 20");
        due("19 the new one stands where it was put", keysAhead(x, 2), "20 10 0 -10");
    }

    private static void promise20Next() {
        OrderedVersions x = four();
        x.open(0, 5, false);
        x.open(0, 5, true);
        due("20 up", x.next(0), 10);
        due("20 down", x.next(1), 0);
        due("20 on up", x.next(0), 20);
        due("20 on down", x.next(1), -10);
        dueThrow("20 end above", () -> x.next(0), NO_ELEMENT);
        dueThrow("20 end below", () -> x.next(1), NO_ELEMENT);
        dueThrow("20 still at the end", () -> x.next(0), NO_ELEMENT);
        due("20 nothing is left to skip", x.skip(0, 9) + x.skip(1, 9), 0);
        dueThrow("20 no such cursor", () -> x.next(2), NO_SUCH_NUMBER);
        dueThrow("20 below", () -> x.next(-1), NO_SUCH_NUMBER);
        dueThrow("20 beyond all", () -> x.next(8), NO_SUCH_NUMBER);
        x.close(0);
        dueThrow("20 closed", () -> x.next(0), NO_SUCH_NUMBER);
    }

    private static void promise20NextInTheMapAsItWas() {
        OrderedVersions x = four();
        x.snapshot();
        x.open(0, LEAST, false);
        x.open(1, MOST, true);
        due("20 before the changes", x.next(0), -10);
        x.put(5, 1);
        x.remove(10);
        x.put(20, 7);
        due("20 put and remove are not seen", x.next(0), 0);
        due("20 what was taken out is there", x.peek(0), 5);
        x.load(100, 1, 5, 0, 0);
        due("20 load is not seen", x.next(0), 10);
        x.cut(LEAST, MOST);
        due("20 nor is cut", x.next(0), 20);
        dueThrow("20 end", () -> x.next(0), NO_ELEMENT);
        x.release(1);
        x.snapshot();
        due("20 the snapshot's release is not seen", keysAhead(x, 1), "20 10 0 -10");
        x.open(0, LEAST, false);
        x.put(1, 1);
        dueThrow("20 opened on nothing", () -> x.next(2), NO_ELEMENT);
        OrderedVersions y = four();
        y.snapshot();
        y.load(0, 1, 1, 0, 0);
        y.open(0, LEAST, false);
        y.open(0, LEAST, false);
        y.merge(1);
        due("20 merge is not seen", keysAhead(y, 0), "0");
        y.restore(1);
        due("20 nor is restore", keysAhead(y, 1), "0");
    }

    private static void promise21Skip() {
        OrderedVersions x = four();
        x.open(0, LEAST, false);
        x.open(0, MOST, true);
        due("21 none", x.skip(0, 0), 0);
        due("21 two up", x.skip(0, 2), 2);
        due("21 stands before", x.next(0), 10);
        due("21 more than there are", x.skip(0, 2), 1);
        due("21 at the end", x.skip(0, 1), 0);
        due("21 one down", x.skip(1, 1), 1);
        due("21 stands before, down", x.next(1), 10);
        due("21 most", x.skip(1, MOST), 2);
        dueThrow("21 then the end", () -> x.next(1), NO_ELEMENT);
        dueThrow("21 below 0", () -> x.skip(0, -1), WRONG);
        dueThrow("21 least", () -> x.skip(1, LEAST), WRONG);
        dueThrow("21 no such cursor", () -> x.skip(2, 1), NO_SUCH_NUMBER);
        dueThrow("21 no such cursor is said first", () -> x.skip(8, -1), NO_SUCH_NUMBER);
        OrderedVersions y = full();
        y.open(0, 1, false);
        due("21 just as many as there are", y.skip(0, 599), 599);
        dueThrow("21 so it is at the end", () -> y.peek(0), NO_ELEMENT);
        y.open(0, 1197, true);
        dueThrow("21 below 0 does not move", () -> y.skip(1, -3), WRONG);
        due("21 it stands where it stood", y.next(1), 1196);
    }

    private static void promise22Peek() {
        OrderedVersions x = four();
        x.snapshot();
        x.open(0, 0, false);
        x.open(1, 0, true);
        x.put(0, 1);
        due("22 as it was", x.peek(0), -4);
        due("22 again", x.peek(0), -4);
        due("22 goes not on", x.next(0), 0);
        due("22 the next one", x.peek(0), 5);
        x.remove(10);
        due("22 though gone", x.peek(0), 5);
        due("22 down", x.peek(1), -4);
        x.next(1);
        due("22 on down", x.peek(1), 3);
        x.next(1);
        dueThrow("22 end below", () -> x.peek(1), NO_ELEMENT);
        x.skip(0, 2);
        dueThrow("22 end above", () -> x.peek(0), NO_ELEMENT);
        dueThrow("22 no such cursor", () -> x.peek(2), NO_SUCH_NUMBER);
        dueThrow("22 below", () -> x.peek(-1), NO_SUCH_NUMBER);
        dueThrow("22 beyond all", () -> x.peek(8), NO_SUCH_NUMBER);
    }

    private static void promise23Close() {
        OrderedVersions x = four();
        x.open(0, 0, false);
        x.open(0, 0, false);
        x.open(0, 0, false);
        dueThrow("23 not opened", () -> x.close(3), NO_SUCH_NUMBER);
        dueThrow("23 below", () -> x.close(-1), NO_SUCH_NUMBER);
        dueThrow("23 beyond all", () -> x.close(8), NO_SUCH_NUMBER);
        due("23 two are left", x.close(1), 2);
        dueThrow("23 twice", () -> x.close(1), NO_SUCH_NUMBER);
        due("23 another one stays", x.next(2), 0);
        due("23 one is left", x.close(0), 1);
        due("23 none is left", x.close(2), 0);
        due("23 from 0 on again", x.open(0, 0, false), 0);
    }

    private static void promise24Astray() {
        OrderedVersions x = new OrderedVersions();
        due("24 new", x.astray(), 0);
        x.load(0, 2, 600, 1, 0);
        due("24 full", x.astray(), 0);
        for (int i = 0; i < 12; i++) {
            x.cut(40 * i, 40 * i + 20);
            x.put(40 * i + 1, i);
            x.snapshot();
        }
        for (int i = 0; i < 8; i++) {
            x.open(i, 100 * i, i % 2 == 0);
            x.skip(i, 250 * i);
        }
        due("24 all that there can be", x.astray(), 0);
        x.merge(2);
        x.remove(1);
        due("24 merged", x.astray(), 0);
        Checks.outcome(() -> x.put(41, 1));
        Checks.outcome(() -> x.load(0, 0, 1, 1, 1));
        Checks.outcome(() -> x.snapshot());
        due("24 behind calls that throw", x.astray(), 0);
        for (int i = 0; i < 8; i++) {
            x.release(i + 1);
            x.close(i);
        }
        due("24 some gone", x.astray(), 0);
        x.restore(12);
        x.cut(LEAST, MOST);
        due("24 empty", x.astray(), 0);
    }
}
