import java.util.Arrays;
import java.util.NoSuchElementException;

/**
 * Maps, rows and heaps that never change: each act makes a new thing, and all old ones stay as they are.
 *
 * <p>A thing keeps its keys or items in one array of just their number that nothing writes to once the thing
 * is made. With at most 100 of them a copied array costs less than the nodes of a tree would. What things share
 * is the values of maps: each is one object in all the maps that have it, so that it is worked once for all.
 */
public final class OrderedMaps {
    /** The code for a thing that is unknown, or of another sort than the call tells. */
    public static final int NONE = -1;

    private static final int OUTSIDE = -2;
    private static final int NOT_SO = -3;
    private static final int FULL = -4;

    private static final int MOST_THINGS = 300;
    private static final int MOST_MEMBERS = 100;

    // The numbers by which told() asks for a sort.
    private static final int ALL_SORTS = 0;
    private static final int MAPS = 1;
    private static final int ROWS = 2;
    private static final int HEAPS = 3;

    private final Thing[] things;
    private final Gathering gathering;
    private int made;
    private int workings;

    public OrderedMaps() {
        things = new Thing[MOST_THINGS];
        gathering = new Gathering();
        made = 0;
        workings = 0;
    }

    public void clear() {
        for (int i = 0; i < things.length; i++) {
            things[i] = null;
        }
        made = 0;
    }

    // ---- maps

    public int map(boolean bits, boolean strict) {
        return numbered(new MapThing(new long[0], new Value[0], bits, strict));
    }

    public int put(int map, long key, long n, long d) throws ArithmeticException {
        MapThing old = mapAt(map);
        if (old == null) {
            return NONE;
        }
        if (isFull()) {
            return FULL;
        }
        if (!old.holds(key) && old.count() >= MOST_MEMBERS) {
            return OUTSIDE;
        }
        Value value = new Value(n, d);
        if (old.strict) {
            numberOf(value);
        }
        gathering.begin();
        gathering.takeRange(old, 0, old.countBefore(key));
        gathering.take(key, value);
        gathering.takeRange(old, old.countUpTo(key), old.count());
        return numbered(gathering.asMapLike(old));
    }

    public int drop(int map, long key) {
        MapThing old = mapAt(map);
        if (old == null) {
            return NONE;
        }
        if (isFull()) {
            return FULL;
        }
        if (!old.holds(key)) {
            return NOT_SO;
        }
        gathering.begin();
        gathering.takeRange(old, 0, old.countBefore(key));
        gathering.takeRange(old, old.countUpTo(key), old.count());
        return numbered(gathering.asMapLike(old));
    }

    public int union(int a, int b) {
        return combined(a, b, true, true, true);
    }

    public int both(int a, int b) {
        return combined(a, b, false, true, false);
    }

    public int less(int a, int b) {
        return combined(a, b, true, false, false);
    }

    public int part(int map, long key, int side) {
        MapThing old = mapAt(map);
        if (old == null) {
            return NONE;
        }
        if (!isSide(side)) {
            return OUTSIDE;
        }
        gathering.begin();
        if (side == 0) {
            gathering.takeRange(old, 0, old.countBefore(key));
        } else {
            gathering.takeRange(old, old.countUpTo(key), old.count());
        }
        return numbered(gathering.asMapLike(old));
    }

    public int kept(int map, long m, long r) {
        MapThing old = mapAt(map);
        if (old == null) {
            return NONE;
        }
        if (m < 1) {
            return OUTSIDE;
        }
        gathering.begin();
        for (int i = 0; i < old.count(); i++) {
            if (Math.floorMod(old.members[i], m) == r) {
                gathering.takeRange(old, i, i + 1);
            }
        }
        return numbered(gathering.asMapLike(old));
    }

    public boolean has(int map, long key) {
        MapThing asked = mapAt(map);
        return asked != null && asked.holds(key);
    }

    public long get(int map, long key)
            throws IllegalArgumentException, NoSuchElementException, ArithmeticException {
        MapThing asked = mapAt(map);
        if (asked == null) {
            throw new IllegalArgumentException("no such map");
        }
        Value value = asked.holds(key) ? asked.valueAt(asked.countBefore(key)) : null;
        if (value == null) {
            throw new NoSuchElementException("the map has not the key");
        }
        return numberOf(value);
    }

    public long key(int map, int place) throws IllegalArgumentException, IndexOutOfBoundsException {
        MapThing asked = mapAt(map);
        if (asked == null) {
            throw new IllegalArgumentException("no such map");
        }
        if (!asked.hasPlace(place)) {
            throw new IndexOutOfBoundsException("the map has no key at the place");
        }
        return asked.members[place];
    }

    public int rank(int map, long key) {
        MapThing asked = mapAt(map);
        return asked == null ? NONE : asked.countBefore(key);
    }

    public long fold(int map, long from, long to) throws IllegalArgumentException, ArithmeticException {
        MapThing asked = mapAt(map);
        if (asked == null) {
            throw new IllegalArgumentException("no such map");
        }
        int end = asked.countUpTo(to);
        long sum = 0;
        for (int i = asked.countBefore(from); i < end; i++) {
            Value value = asked.valueAt(i);
            if (value != null) {
                sum += numberOf(value);
            }
        }
        return sum;
    }

    // ---- rows

    public int row() {
        return numbered(new RowThing(new long[0]));
    }

    public int add(int row, boolean ahead, long item) {
        RowThing old = rowAt(row);
        if (old == null) {
            return NONE;
        }
        RowThing single = new RowThing(new long[] {item});
        return ahead ? joined(single, old) : joined(old, single);
    }

    public int join(int a, int b) {
        RowThing first = rowAt(a);
        RowThing second = rowAt(b);
        if (first == null || second == null) {
            return NONE;
        }
        return joined(first, second);
    }

    public int cut(int row, int n, int side) {
        RowThing old = rowAt(row);
        if (old == null) {
            return NONE;
        }
        if (n < 0 || n > old.count() || !isSide(side)) {
            return OUTSIDE;
        }
        int from = side == 0 ? 0 : n;
        int to = side == 0 ? n : old.count();
        return numbered(new RowThing(Arrays.copyOfRange(old.members, from, to)));
    }

    public int replace(int row, int place, long item) {
        RowThing old = rowAt(row);
        if (old == null) {
            return NONE;
        }
        if (!old.hasPlace(place)) {
            return OUTSIDE;
        }
        long[] items = old.members.clone();
        items[place] = item;
        return numbered(new RowThing(items));
    }

    public int turned(int row) {
        RowThing old = rowAt(row);
        if (old == null) {
            return NONE;
        }
        int count = old.count();
        long[] items = new long[count];
        for (int i = 0; i < count; i++) {
            items[i] = old.members[count - 1 - i];
        }
        return numbered(new RowThing(items));
    }

    public long at(int row, int place) throws IllegalArgumentException, IndexOutOfBoundsException {
        RowThing asked = rowAt(row);
        if (asked == null) {
            throw new IllegalArgumentException("no such row");
        }
        if (!asked.hasPlace(place)) {
            throw new IndexOutOfBoundsException("the row has no item at the place");
        }
        return asked.members[place];
    }

    public int find(int row, int place, long least) {
        RowThing asked = rowAt(row);
        if (asked == null) {
            return NONE;
        }
        if (place < 0) {
            return OUTSIDE;
        }
        for (int i = place; i < asked.count(); i++) {
            if (asked.members[i] >= least) {
                return i;
            }
        }
        return NOT_SO;
    }

    // ---- heaps

    public int heap() {
        return numbered(new HeapThing(new long[0]));
    }

    public int push(int heap, long item) {
        HeapThing old = heapAt(heap);
        if (old == null) {
            return NONE;
        }
        return melded(old, new HeapThing(new long[] {item}));
    }

    public int meld(int a, int b) {
        HeapThing first = heapAt(a);
        HeapThing second = heapAt(b);
        if (first == null || second == null) {
            return NONE;
        }
        return melded(first, second);
    }

    public int pop(int heap) {
        HeapThing old = heapAt(heap);
        if (old == null) {
            return NONE;
        }
        if (isFull()) {
            return FULL;
        }
        if (old.count() == 0) {
            return NOT_SO;
        }
        return numbered(new HeapThing(Arrays.copyOfRange(old.members, 1, old.count())));
    }

    public long least(int heap) throws IllegalArgumentException, NoSuchElementException {
        HeapThing asked = heapAt(heap);
        if (asked == null) {
            throw new IllegalArgumentException("no such heap");
        }
        if (asked.count() == 0) {
            throw new NoSuchElementException("the heap has no item");
        }
        return asked.members[0];
    }

    // ---- all

    public int size(int thing) {
        Thing asked = thingAt(thing);
        return asked == null ? NONE : asked.count();
    }

    public int same(int a, int b) {
        Thing first = thingAt(a);
        Thing second = thingAt(b);
        if (first == null || second == null) {
            return NONE;
        }
        return first.isWhatIs(second) ? 1 : 0;
    }

    public boolean sound(int thing) {
        Thing asked = thingAt(thing);
        return asked != null && asked.count() <= MOST_MEMBERS && asked.keepsItsRules();
    }

    public int worked() {
        return workings;
    }

    public int told(int what) {
        if (what < ALL_SORTS || what > HEAPS) {
            return OUTSIDE;
        }
        int count = 0;
        for (int i = 0; i < made; i++) {
            Thing thing = thingAt(i);
            if (thing != null && (what == ALL_SORTS || thing.sort() == what)) {
                count++;
            }
        }
        return count;
    }

    // ---- things by their numbers

    private Thing thingAt(int number) {
        return number >= 0 && number < made && number < things.length ? things[number] : null;
    }

    private MapThing mapAt(int number) {
        if (thingAt(number) instanceof MapThing found) {
            return found;
        }
        return null;
    }

    private RowThing rowAt(int number) {
        if (thingAt(number) instanceof RowThing found) {
            return found;
        }
        return null;
    }

    private HeapThing heapAt(int number) {
        if (thingAt(number) instanceof HeapThing found) {
            return found;
        }
        return null;
    }

    private boolean isFull() {
        return made >= MOST_THINGS;
    }

    /** Calls whose last code is -4 leave it to this test; the others ask isFull() earlier, too. */
    private int numbered(Thing thing) {
        if (isFull()) {
            return FULL;
        }
        things[made] = thing;
        made++;
        return made - 1;
    }

    // ---- what several calls share

    private static boolean isSide(int side) {
        return side == 0 || side == 1;
    }

    /** A value that failed is not known afterwards, so that it is worked, and counted, at every need. */
    private long numberOf(Value value) throws ArithmeticException {
        if (!value.isKnown) {
            workings++;
            value.workOut();
        }
        return value.number;
    }

    private int combined(int a, int b, boolean ofFirst, boolean ofBoth, boolean ofSecond) {
        MapThing first = mapAt(a);
        MapThing second = mapAt(b);
        if (first == null || second == null) {
            return NONE;
        }
        if (!first.isAlike(second)) {
            return NOT_SO;
        }
        if (isFull()) {
            return FULL;
        }
        gathering.begin();
        gathering.takeWhere(first, second, ofFirst, ofBoth, ofSecond);
        if (gathering.count > MOST_MEMBERS) {
            return OUTSIDE;
        }
        return numbered(gathering.asMapLike(first));
    }

    private int joined(RowThing first, RowThing second) {
        if (isFull()) {
            return FULL;
        }
        int count = first.count() + second.count();
        if (count > MOST_MEMBERS) {
            return OUTSIDE;
        }
        long[] items = Arrays.copyOf(first.members, count);
        System.arraycopy(second.members, 0, items, first.count(), second.count());
        return numbered(new RowThing(items));
    }

    private int melded(HeapThing first, HeapThing second) {
        if (isFull()) {
            return FULL;
        }
        if (first.count() + second.count() > MOST_MEMBERS) {
            return OUTSIDE;
        }
        return numbered(new HeapThing(mergedItems(first.members, second.members)));
    }

    private static long[] mergedItems(long[] first, long[] second) {
        long[] items = new long[first.length + second.length];
        int i = 0;
        int j = 0;
        for (int place = 0; place < items.length; place++) {
            if (i < first.length && (j >= second.length || first[i] <= second[j])) {
                items[place] = first[i];
                i++;
            } else if (j < second.length) {
                items[place] = second[j];
                j++;
            }
        }
        return items;
    }

    // ---- the things

    /** A value lives in one object for all maps that have it: what one of them works, all of them know. */
    private static final class Value {
        private final long n;
        private final long d;
        private boolean isKnown;
        private long number;

        Value(long n, long d) {
            this.n = n;
            this.d = d;
        }

        void workOut() throws ArithmeticException {
            if (d == 0) {
                throw new ArithmeticException("the value fails: it is divided by 0");
            }
            number = n / d;
            isKnown = true;
        }
    }

    /** The members are a map's keys by its order, a row's items by their places, a heap's items from the least on. */
    private abstract static class Thing {
        final long[] members;

        Thing(long[] members) {
            this.members = members;
        }

        abstract int sort();

        abstract boolean keepsItsRules();

        final int count() {
            return members.length;
        }

        final boolean hasPlace(int place) {
            return place >= 0 && place < members.length;
        }

        boolean isWhatIs(Thing other) {
            return sort() == other.sort() && hasMembersOf(other);
        }

        /** Each sort keeps its members in one way only, so that they are the same if the arrays are. */
        final boolean hasMembersOf(Thing other) {
            if (members.length != other.members.length) {
                return false;
            }
            for (int i = 0; i < members.length && i < other.members.length; i++) {
                if (members[i] != other.members[i]) {
                    return false;
                }
            }
            return true;
        }
    }

    private static final class MapThing extends Thing {
        final Value[] values;
        final boolean bits;
        final boolean strict;

        MapThing(long[] keys, Value[] values, boolean bits, boolean strict) {
            super(keys);
            this.values = values;
            this.bits = bits;
            this.strict = strict;
        }

        int sort() {
            return MAPS;
        }

        boolean isAlike(MapThing other) {
            return bits == other.bits && strict == other.strict;
        }

        boolean isWhatIs(Thing other) {
            if (other instanceof MapThing second) {
                return bits == second.bits && hasMembersOf(second);
            }
            return false;
        }

        int compareKeys(long first, long second) {
            return bits ? Long.compareUnsigned(first, second) : Long.compare(first, second);
        }

        int countBefore(long key) {
            int place = 0;
            while (place < members.length && compareKeys(members[place], key) < 0) {
                place++;
            }
            return place;
        }

        int countUpTo(long key) {
            int place = countBefore(key);
            return isKeyAt(place, key) ? place + 1 : place;
        }

        boolean holds(long key) {
            return isKeyAt(countBefore(key), key);
        }

        private boolean isKeyAt(int place, long key) {
            return hasPlace(place) && members[place] == key;
        }

        Value valueAt(int place) {
            return place >= 0 && place < values.length ? values[place] : null;
        }

        /** A map that has come to its end counts as behind, so that a walk through two maps takes both whole. */
        int compareAt(int place, MapThing other, int otherPlace) {
            if (!other.hasPlace(otherPlace)) {
                return -1;
            }
            if (!hasPlace(place)) {
                return 1;
            }
            return compareKeys(members[place], other.members[otherPlace]);
        }

        boolean keepsItsRules() {
            if (values.length != members.length) {
                return false;
            }
            for (int i = 0; i < members.length; i++) {
                Value value = valueAt(i);
                if (value == null || (strict && !value.isKnown)) {
                    return false;
                }
                if (i > 0 && compareKeys(members[i - 1], members[i]) >= 0) {
                    return false;
                }
            }
            return true;
        }
    }

    private static final class RowThing extends Thing {
        RowThing(long[] items) {
            super(items);
        }

        int sort() {
            return ROWS;
        }

        /** A row may have any items at its places: it has no rule but the limit, which holds for every sort. */
        boolean keepsItsRules() {
            return true;
        }
    }

    private static final class HeapThing extends Thing {
        HeapThing(long[] items) {
            super(items);
        }

        int sort() {
            return HEAPS;
        }

        boolean keepsItsRules() {
            for (int i = 1; i < members.length; i++) {
                if (members[i - 1] > members[i]) {
                    return false;
                }
            }
            return true;
        }
    }

    /** One for all calls, with room for two whole maps: how many keys a new map has is known only in the end. */
    private static final class Gathering {
        private final long[] keys = new long[2 * MOST_MEMBERS];
        private final Value[] values = new Value[2 * MOST_MEMBERS];
        private int count;

        void begin() {
            count = 0;
        }

        void take(long key, Value value) {
            if (count < keys.length && count < values.length) {
                keys[count] = key;
                values[count] = value;
                count++;
            }
        }

        void takeRange(MapThing map, int from, int to) {
            for (int i = from; i < to; i++) {
                if (map.hasPlace(i)) {
                    take(map.members[i], map.valueAt(i));
                }
            }
        }

        /** The keys must come by the order, so both maps are walked at once; a key of both has the first's value. */
        void takeWhere(MapThing first, MapThing second, boolean ofFirst, boolean ofBoth, boolean ofSecond) {
            int i = 0;
            int j = 0;
            while (i < first.count() || j < second.count()) {
                int compared = first.compareAt(i, second, j);
                if (compared > 0) {
                    takeRange(second, j, ofSecond ? j + 1 : j);
                    j++;
                    continue;
                }
                boolean wanted = compared == 0 ? ofBoth : ofFirst;
                takeRange(first, i, wanted ? i + 1 : i);
                i++;
                if (compared == 0) {
                    j++;
                }
            }
        }

        MapThing asMapLike(MapThing model) {
            Value[] taken = new Value[count];
            for (int i = 0; i < count; i++) {
                taken[i] = values[i];
            }
            return new MapThing(Arrays.copyOf(keys, count), taken, model.bits, model.strict);
        }
    }
}
