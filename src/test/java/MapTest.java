import java.util.NoSuchElementException;

/** Promises 3 to 15: maps. */
public final class MapTest {
    private static final long LEAST = Long.MIN_VALUE;
    private static final long MOST = Long.MAX_VALUE;
    private static final Check CHECK = new Check("MapTest");

    public static void main(String[] args) {
        promise3Map();
        promise4Put();
        promise4PutStrict();
        promise4PutQuotients();
        promise5Drop();
        promise6Union();
        promise7Both();
        promise8Less();
        promise9Part();
        promise10Kept();
        promise11Has();
        promise12Get();
        promise12GetOfSharedValues();
        promise13Key();
        promise14Rank();
        promise15Fold();
        promise15FoldThatFails();
        CHECK.end();
    }

    private static void dueKeys(OrderedMaps x, String call, int map, long... keys) {
        CHECK.due("size of " + call, x.size(map), keys.length);
        for (int i = 0; i < keys.length; i++) {
            int place = i;
            CHECK.due("key " + i + " of " + call, Check.answerOf(() -> x.key(map, place)), Long.toString(keys[i]));
        }
        CHECK.due("sound of " + call, x.sound(map), true);
    }

    private static void promise3Map() {
        OrderedMaps x = new OrderedMaps();
        CHECK.due("map signed lazy", x.map(false, false), 0);
        CHECK.due("map signed strict", x.map(false, true), 1);
        CHECK.due("map bits lazy", x.map(true, false), 2);
        CHECK.due("map bits strict", x.map(true, true), 3);
        for (int i = 0; i < 4; i++) {
            dueKeys(x, "map " + i, i);
        }
        CHECK.due("told maps", x.told(1), 4);
    }

    private static void promise4Put() {
        OrderedMaps x = new OrderedMaps();
        x.map(false, false);
        CHECK.due("put a key", x.put(0, 5, 50, 5), 1);
        CHECK.due("put one before", x.put(1, -3, 9, 3), 2);
        CHECK.due("put one between", x.put(2, 0, 8, 2), 3);
        CHECK.due("put one behind", x.put(3, 7, 7, 7), 4);
        CHECK.due("put in place of one", x.put(4, 0, 100, 1), 5);
        dueKeys(x, "map 0", 0);
        dueKeys(x, "map 1", 1, 5);
        dueKeys(x, "map 2", 2, -3, 5);
        dueKeys(x, "map 3", 3, -3, 0, 5);
        dueKeys(x, "map 4", 4, -3, 0, 5, 7);
        dueKeys(x, "map 5", 5, -3, 0, 5, 7);
        CHECK.due("the old value stays", x.get(4, 0), 4);
        CHECK.due("the new value", x.get(5, 0), 100);
        CHECK.due("a value besides", x.get(5, 5), 10);
        CHECK.due("put unknown", x.put(6, 1, 1, 1), -1);
        CHECK.due("put below 0", x.put(-1, 1, 1, 1), -1);
        int row = x.row();
        int heap = x.heap();
        CHECK.due("put of a row", x.put(row, 1, 1, 1), -1);
        CHECK.due("put of a heap", x.put(heap, 1, 1, 1), -1);
        CHECK.due("a lazy put works nothing", x.put(0, 1, 1, 0), 8);
    }

    private static void promise4PutStrict() {
        OrderedMaps x = new OrderedMaps();
        x.map(false, true);
        CHECK.due("put strict", x.put(0, 1, 6, 2), 1);
        CHECK.due("worked at once", x.worked(), 1);
        CHECK.due("get", x.get(1, 1), 3);
        CHECK.due("not worked again", x.worked(), 1);
        CHECK.fails("put that fails", ArithmeticException.class, () -> x.put(1, 2, 6, 0));
        CHECK.due("it was worked", x.worked(), 2);
        CHECK.due("no thing was made", x.told(0), 2);
        CHECK.fails("put that fails, in place of one", ArithmeticException.class, () -> x.put(1, 1, 0, 0));
        CHECK.due("it was worked, too", x.worked(), 3);
        CHECK.due("the old value stays", x.get(1, 1), 3);
        CHECK.due("an unknown map comes first", x.put(9, 1, 1, 0), -1);
        CHECK.due("and works nothing", x.worked(), 3);
    }

    private static void promise4PutQuotients() {
        long[][] rows = {
            {7, 2, 3}, {-7, 2, -3}, {7, -2, -3}, {-7, -2, 3}, {1, 2, 0}, {-1, 2, 0}, {0, 5, 0},
            {LEAST, -1, LEAST}, {LEAST, 1, LEAST}, {MOST, -1, -MOST}, {LEAST, LEAST, 1}, {MOST, LEAST, 0},
        };
        for (int strict = 0; strict < 2; strict++) {
            OrderedMaps x = new OrderedMaps();
            int map = x.map(false, strict == 1);
            for (long[] row : rows) {
                int made = x.put(map, 1, row[0], row[1]);
                CHECK.due(row[0] + " / " + row[1], x.get(made, 1), row[2]);
            }
        }
    }

    private static void promise5Drop() {
        OrderedMaps x = new OrderedMaps();
        int map = Things.mapOf(x, false, false, 1, 2, 3);
        int next = x.told(0);
        CHECK.due("drop between", x.drop(map, 2), next);
        CHECK.due("drop the first", x.drop(map, 1), next + 1);
        CHECK.due("drop the last", x.drop(map, 3), next + 2);
        dueKeys(x, "without 2", next, 1, 3);
        dueKeys(x, "without 1", next + 1, 2, 3);
        dueKeys(x, "without 3", next + 2, 1, 2);
        dueKeys(x, "the old map", map, 1, 2, 3);
        CHECK.due("the values stay", x.get(next, 3), 3);
        CHECK.due("drop what it has not", x.drop(map, 4), -3);
        CHECK.due("drop of a map without keys", x.drop(0, 1), -3);
        CHECK.due("drop unknown", x.drop(99, 1), -1);
        int row = x.row();
        CHECK.due("drop of a row", x.drop(row, 1), -1);
    }

    private static void promise6Union() {
        OrderedMaps x = new OrderedMaps();
        int a = Things.mapOf(x, true, false, 1, 3, -1);
        int b = x.put(Things.mapOf(x, true, false, 0, 4, LEAST), 3, 100, 1);
        int made = x.union(a, b);
        dueKeys(x, "union", made, 0, 1, 3, 4, LEAST, -1);
        CHECK.due("the value of a", x.get(made, 3), 3);
        CHECK.due("the value of b alone", x.get(made, 4), 4);
        CHECK.due("the value of b first", x.get(x.union(b, a), 3), 100);
        dueKeys(x, "a after it", a, 1, 3, -1);
        dueKeys(x, "with one without keys", x.union(a, x.map(true, false)), 1, 3, -1);
        dueKeys(x, "of one without keys", x.union(x.map(true, false), a), 1, 3, -1);
        dueKeys(x, "with itself", x.union(a, a), 1, 3, -1);
        dueUnlike(x, a);
    }

    /** The wrong inputs are the same for all calls that take two maps; a is lazy, by bits. */
    private static void dueUnlike(OrderedMaps x, int a) {
        int[] others = {x.map(false, false), x.map(true, true), x.map(false, true)};
        int row = x.row();
        int heap = x.heap();
        int things = x.told(0);
        for (int other : others) {
            CHECK.due("union unlike", x.union(a, other), -3);
            CHECK.due("union unlike, turned", x.union(other, a), -3);
            CHECK.due("both unlike", x.both(a, other), -3);
            CHECK.due("both unlike, turned", x.both(other, a), -3);
            CHECK.due("less unlike", x.less(a, other), -3);
            CHECK.due("less unlike, turned", x.less(other, a), -3);
        }
        for (int other : new int[] {row, heap, -1, things, 300, Integer.MAX_VALUE, Integer.MIN_VALUE}) {
            CHECK.due("union unknown", x.union(a, other), -1);
            CHECK.due("union unknown, turned", x.union(other, a), -1);
            CHECK.due("both unknown", x.both(a, other), -1);
            CHECK.due("both unknown, turned", x.both(other, a), -1);
            CHECK.due("less unknown", x.less(a, other), -1);
            CHECK.due("less unknown, turned", x.less(other, a), -1);
        }
        CHECK.due("no thing was made", x.told(0), things);
    }

    private static void promise7Both() {
        OrderedMaps x = new OrderedMaps();
        int a = Things.mapOf(x, true, false, 1, 3, 5, -1);
        int b = x.put(Things.mapOf(x, true, false, 0, 5, -1, 7), 5, 100, 1);
        int made = x.both(a, b);
        dueKeys(x, "both", made, 5, -1);
        CHECK.due("the value of a", x.get(made, 5), 5);
        CHECK.due("the value of b first", x.get(x.both(b, a), 5), 100);
        dueKeys(x, "both with none", x.both(a, x.map(true, false)));
        dueKeys(x, "both of none", x.both(x.map(true, false), a));
        dueKeys(x, "both with itself", x.both(a, a), 1, 3, 5, -1);
        dueUnlike(x, a);
    }

    private static void promise8Less() {
        OrderedMaps x = new OrderedMaps();
        int a = Things.mapOf(x, true, false, 1, 3, 5, -1);
        int b = Things.mapOf(x, true, false, 0, 5, -1, 7);
        int made = x.less(a, b);
        dueKeys(x, "less", made, 1, 3);
        CHECK.due("the value of a", x.get(made, 3), 3);
        dueKeys(x, "less, turned", x.less(b, a), 0, 7);
        dueKeys(x, "less none", x.less(a, x.map(true, false)), 1, 3, 5, -1);
        dueKeys(x, "none less", x.less(x.map(true, false), a));
        dueKeys(x, "less itself", x.less(a, a));
        dueUnlike(x, a);
    }

    private static void promise9Part() {
        OrderedMaps x = new OrderedMaps();
        int signed = Things.mapOf(x, false, false, LEAST, -1, 0, 1, MOST);
        dueKeys(x, "before 0, signed", x.part(signed, 0, 0), LEAST, -1);
        dueKeys(x, "behind 0, signed", x.part(signed, 0, 1), 1, MOST);
        dueKeys(x, "before one that it has not", x.part(signed, 5, 0), LEAST, -1, 0, 1);
        dueKeys(x, "behind one that it has not", x.part(signed, 5, 1), MOST);
        dueKeys(x, "before the first", x.part(signed, LEAST, 0));
        dueKeys(x, "behind the last", x.part(signed, MOST, 1));
        int bits = Things.mapOf(x, true, false, LEAST, -1, 0, 1, MOST);
        dueKeys(x, "before -1, bits", x.part(bits, -1, 0), 0, 1, MOST, LEAST);
        dueKeys(x, "behind 0, bits", x.part(bits, 0, 1), 1, MOST, LEAST, -1);
        dueKeys(x, "behind the last, bits", x.part(bits, -1, 1));
        CHECK.due("a value of a part", x.get(x.part(bits, 1, 1), -1), -1);
        CHECK.due("part by side 2", x.part(bits, 0, 2), -2);
        CHECK.due("part by side -1", x.part(bits, 0, -1), -2);
        CHECK.due("part unknown", x.part(99, 0, 0), -1);
        CHECK.due("part unknown comes before the side", x.part(99, 0, 2), -1);
        int row = x.row();
        CHECK.due("part of a row", x.part(row, 0, 0), -1);
    }

    private static void promise10Kept() {
        OrderedMaps x = new OrderedMaps();
        int map = Things.mapOf(x, false, false, LEAST, -4, -3, -2, -1, 0, 1, 2, 3, MOST);
        dueKeys(x, "3, 0", x.kept(map, 3, 0), -3, 0, 3);
        dueKeys(x, "3, 1", x.kept(map, 3, 1), LEAST, -2, 1, MOST);
        dueKeys(x, "3, 2", x.kept(map, 3, 2), -4, -1, 2);
        dueKeys(x, "1, 0", x.kept(map, 1, 0), LEAST, -4, -3, -2, -1, 0, 1, 2, 3, MOST);
        dueKeys(x, "r that no key leaves", x.kept(map, 3, 3));
        dueKeys(x, "r below 0", x.kept(map, 3, -1));
        dueKeys(x, "m the most, r 0", x.kept(map, MOST, 0), 0, MOST);
        dueKeys(x, "m the most, r m - 1", x.kept(map, MOST, MOST - 1), LEAST, -1);
        int bits = Things.mapOf(x, true, false, -1, 0, 2, 5);
        dueKeys(x, "bits: keys are longs", x.kept(bits, 3, 2), 2, 5, -1);
        CHECK.due("a value of it", x.get(x.kept(bits, 3, 2), 5), 5);
        CHECK.due("m 0", x.kept(map, 0, 0), -2);
        CHECK.due("m below 0", x.kept(map, -3, 0), -2);
        CHECK.due("m the least", x.kept(map, LEAST, 0), -2);
        CHECK.due("unknown comes before m", x.kept(99, 0, 0), -1);
        int heap = x.heap();
        CHECK.due("kept of a heap", x.kept(heap, 1, 0), -1);
    }

    private static void promise11Has() {
        OrderedMaps x = new OrderedMaps();
        int map = Things.mapOf(x, true, false, -1, 1);
        CHECK.due("has", x.has(map, -1), true);
        CHECK.due("has, too", x.has(map, 1), true);
        CHECK.due("has not", x.has(map, 0), false);
        CHECK.due("the old one has not", x.has(0, 1), false);
        CHECK.due("of an unknown one", x.has(99, 1), false);
        CHECK.due("below 0", x.has(-1, 1), false);
        int row = x.add(x.row(), true, 1);
        CHECK.due("of a row", x.has(row, 1), false);
        CHECK.due("has works nothing", x.worked(), 0);
    }

    private static void promise12Get() {
        OrderedMaps x = new OrderedMaps();
        x.map(false, false);
        x.put(0, 1, 9, 2);
        x.put(1, 2, 9, 0);
        CHECK.due("get", x.get(2, 1), 4);
        CHECK.due("get again", x.get(2, 1), 4);
        CHECK.due("worked once", x.worked(), 1);
        CHECK.fails("get that fails", ArithmeticException.class, () -> x.get(2, 2));
        CHECK.fails("get that fails again", ArithmeticException.class, () -> x.get(2, 2));
        CHECK.due("worked at each need", x.worked(), 3);
        CHECK.fails("get of no key", NoSuchElementException.class, () -> x.get(2, 3));
        CHECK.fails("get of an old map", NoSuchElementException.class, () -> x.get(1, 2));
        CHECK.fails("get unknown", IllegalArgumentException.class, () -> x.get(3, 1));
        CHECK.fails("get below 0", IllegalArgumentException.class, () -> x.get(-1, 1));
        int row = x.row();
        CHECK.fails("get of a row", IllegalArgumentException.class, () -> x.get(row, 1));
        CHECK.due("nothing more worked", x.worked(), 3);
    }

    private static void promise12GetOfSharedValues() {
        OrderedMaps x = new OrderedMaps();
        int a = x.put(x.map(false, false), 1, 9, 2);
        int b = x.put(x.map(false, false), 2, 8, 2);
        int all = x.union(a, b);
        int[] maps = {all, x.both(all, a), x.less(all, b), x.part(all, 2, 0), x.kept(all, 2, 1), x.drop(all, 2),
            x.put(all, 3, 1, 1), a};
        for (int map : maps) {
            CHECK.due("get by need in " + map, x.get(map, 1), 4);
            CHECK.due("worked once in all", x.worked(), 1);
        }
        int anew = x.put(all, 1, 9, 2);
        CHECK.due("a value put anew", x.get(anew, 1), 4);
        CHECK.due("is worked by itself", x.worked(), 2);
        int failing = x.put(a, 5, 1, 0);
        int shared = x.union(failing, b);
        CHECK.fails("a shared one fails", ArithmeticException.class, () -> x.get(shared, 5));
        CHECK.fails("and fails where it came from", ArithmeticException.class, () -> x.get(failing, 5));
        CHECK.due("worked twice", x.worked(), 4);
    }

    private static void promise13Key() {
        OrderedMaps x = new OrderedMaps();
        int signed = Things.mapOf(x, false, false, 0, LEAST, MOST, -1, 1);
        dueKeys(x, "signed", signed, LEAST, -1, 0, 1, MOST);
        int bits = Things.mapOf(x, true, false, 0, LEAST, MOST, -1, 1);
        dueKeys(x, "bits", bits, 0, 1, MOST, LEAST, -1);
        CHECK.fails("place 5", IndexOutOfBoundsException.class, () -> x.key(bits, 5));
        CHECK.fails("place -1", IndexOutOfBoundsException.class, () -> x.key(bits, -1));
        CHECK.fails("the most", IndexOutOfBoundsException.class, () -> x.key(bits, Integer.MAX_VALUE));
        CHECK.fails("the least", IndexOutOfBoundsException.class, () -> x.key(bits, Integer.MIN_VALUE));
        CHECK.fails("of no keys", IndexOutOfBoundsException.class, () -> x.key(0, 0));
        CHECK.fails("unknown", IllegalArgumentException.class, () -> x.key(99, 0));
        CHECK.fails("unknown comes first", IllegalArgumentException.class, () -> x.key(99, -1));
        int row = x.add(x.row(), true, 1);
        CHECK.fails("of a row", IllegalArgumentException.class, () -> x.key(row, 0));
        CHECK.due("key works nothing", x.worked(), 0);
    }

    private static void promise14Rank() {
        OrderedMaps x = new OrderedMaps();
        int signed = Things.mapOf(x, false, false, LEAST, -1, 1, MOST);
        int bits = Things.mapOf(x, true, false, LEAST, -1, 1, MOST);
        long[] keys = {LEAST, -1, 0, 1, 2, MOST};
        long[] dueSigned = {0, 1, 2, 2, 3, 3};
        long[] dueBits = {2, 3, 0, 0, 1, 1};
        for (int i = 0; i < keys.length; i++) {
            CHECK.due("rank, signed, of " + keys[i], x.rank(signed, keys[i]), dueSigned[i]);
            CHECK.due("rank, bits, of " + keys[i], x.rank(bits, keys[i]), dueBits[i]);
        }
        CHECK.due("behind all", x.rank(Things.mapOf(x, false, false, 1, 2), 3), 2);
        CHECK.due("of no keys", x.rank(0, 3), 0);
        CHECK.due("unknown", x.rank(99, 3), -1);
        int heap = x.heap();
        CHECK.due("of a heap", x.rank(heap, 3), -1);
    }

    private static void promise15Fold() {
        OrderedMaps x = new OrderedMaps();
        int signed = Things.mapOf(x, false, false, -5, -1, 2, 7);
        CHECK.due("of some", x.fold(signed, -1, 2), 1);
        CHECK.due("only they are needed", x.worked(), 2);
        CHECK.due("of all", x.fold(signed, LEAST, MOST), 3);
        CHECK.due("each worked once", x.worked(), 4);
        CHECK.due("of one", x.fold(signed, 7, 7), 7);
        CHECK.due("between keys", x.fold(signed, 3, 6), 0);
        CHECK.due("the wrong way round", x.fold(signed, 7, -5), 0);
        CHECK.due("by ends it has not", x.fold(signed, -4, 6), 1);
        CHECK.due("of no keys", x.fold(0, LEAST, MOST), 0);
        int bits = Things.mapOf(x, true, false, -5, -1, 2, 7);
        CHECK.due("bits, all", x.fold(bits, 0, -1), 3);
        CHECK.due("bits, from 3 on", x.fold(bits, 3, -2), 2);
        CHECK.due("bits, the wrong way round", x.fold(bits, -1, 0), 0);
        int large = x.put(x.put(x.map(false, false), 1, MOST, 1), 2, 1, 1);
        CHECK.due("in 64 bits", x.fold(large, 1, 2), LEAST);
        CHECK.fails("unknown", IllegalArgumentException.class, () -> x.fold(999, 0, 1));
        int row = x.row();
        CHECK.fails("of a row", IllegalArgumentException.class, () -> x.fold(row, 0, 1));
    }

    private static void promise15FoldThatFails() {
        OrderedMaps x = new OrderedMaps();
        int map = x.put(Things.mapOf(x, true, false, 1, 2, -1), 3, 1, 0);
        CHECK.fails("fold that fails", ArithmeticException.class, () -> x.fold(map, 0, -1));
        CHECK.due("two before it, and it", x.worked(), 3);
        CHECK.due("one before it is kept", x.get(map, 2), 2);
        CHECK.due("not worked again", x.worked(), 3);
        CHECK.due("the one behind it", x.get(map, -1), -1);
        CHECK.due("was not needed before", x.worked(), 4);
        CHECK.fails("fold again", ArithmeticException.class, () -> x.fold(map, 0, -1));
        CHECK.due("only the one that fails", x.worked(), 5);
        CHECK.due("beside it", x.fold(map, 4, -1), -1);
        CHECK.due("nothing more", x.worked(), 5);
    }
}
