import java.util.ArrayList;
import java.util.Collections;
import java.util.Comparator;
import java.util.List;
import java.util.NoSuchElementException;
import java.util.TreeMap;

/** The document, written down as plainly as the Java library allows, to compare the program with. */
final class Model {
    private static final class Quotient {
        final long n;
        final long d;
        Long number;

        Quotient(long n, long d) {
            this.n = n;
            this.d = d;
        }
    }

    private record MapModel(boolean bits, boolean strict, TreeMap<Long, Quotient> entries) {
    }

    private record RowModel(List<Long> items) {
    }

    private record HeapModel(List<Long> items) {
    }

    private final List<Object> things = new ArrayList<>();
    private int worked;

    void clear() {
        things.clear();
    }

    // ---- maps

    private static TreeMap<Long, Quotient> entries(boolean bits) {
        Comparator<Long> order = bits ? Long::compareUnsigned : Long::compare;
        return new TreeMap<>(order);
    }

    int map(boolean bits, boolean strict) {
        return isFull() ? -4 : made(new MapModel(bits, strict, entries(bits)));
    }

    int put(int map, long key, long n, long d) {
        MapModel old = mapAt(map);
        if (old == null) {
            return -1;
        }
        if (isFull()) {
            return -4;
        }
        if (!old.entries.containsKey(key) && old.entries.size() == 100) {
            return -2;
        }
        Quotient value = new Quotient(n, d);
        if (old.strict) {
            need(value);
        }
        MapModel next = copy(old);
        next.entries.put(key, value);
        return made(next);
    }

    int drop(int map, long key) {
        MapModel old = mapAt(map);
        if (old == null) {
            return -1;
        }
        if (isFull()) {
            return -4;
        }
        if (!old.entries.containsKey(key)) {
            return -3;
        }
        MapModel next = copy(old);
        next.entries.remove(key);
        return made(next);
    }

    private int codeOfTwo(MapModel a, MapModel b) {
        if (a == null || b == null) {
            return -1;
        }
        if (a.bits != b.bits || a.strict != b.strict) {
            return -3;
        }
        return isFull() ? -4 : 0;
    }

    int union(int a, int b) {
        int code = codeOfTwo(mapAt(a), mapAt(b));
        if (code != 0) {
            return code;
        }
        MapModel next = copy(mapAt(b));
        next.entries.putAll(mapAt(a).entries);
        return next.entries.size() > 100 ? -2 : made(next);
    }

    int both(int a, int b) {
        int code = codeOfTwo(mapAt(a), mapAt(b));
        if (code != 0) {
            return code;
        }
        MapModel next = copy(mapAt(a));
        next.entries.keySet().removeIf(key -> !mapAt(b).entries.containsKey(key));
        return made(next);
    }

    int less(int a, int b) {
        int code = codeOfTwo(mapAt(a), mapAt(b));
        if (code != 0) {
            return code;
        }
        MapModel next = copy(mapAt(a));
        next.entries.keySet().removeIf(key -> mapAt(b).entries.containsKey(key));
        return made(next);
    }

    int part(int map, long key, int side) {
        MapModel old = mapAt(map);
        if (old == null) {
            return -1;
        }
        if (side != 0 && side != 1) {
            return -2;
        }
        if (isFull()) {
            return -4;
        }
        MapModel next = new MapModel(old.bits, old.strict, entries(old.bits));
        next.entries.putAll(side == 0 ? old.entries.headMap(key, false) : old.entries.tailMap(key, false));
        return made(next);
    }

    int kept(int map, long m, long r) {
        MapModel old = mapAt(map);
        if (old == null) {
            return -1;
        }
        if (m < 1) {
            return -2;
        }
        if (isFull()) {
            return -4;
        }
        MapModel next = copy(old);
        next.entries.keySet().removeIf(key -> (key % m < 0 ? key % m + m : key % m) != r);
        return made(next);
    }

    boolean has(int map, long key) {
        MapModel asked = mapAt(map);
        return asked != null && asked.entries.containsKey(key);
    }

    long get(int map, long key) {
        MapModel asked = knownMap(map);
        if (!asked.entries.containsKey(key)) {
            throw new NoSuchElementException();
        }
        return need(asked.entries.get(key));
    }

    long key(int map, int place) {
        return new ArrayList<>(knownMap(map).entries.keySet()).get(inside(place, knownMap(map).entries.size()));
    }

    int rank(int map, long key) {
        MapModel asked = mapAt(map);
        return asked == null ? -1 : asked.entries.headMap(key, false).size();
    }

    long fold(int map, long from, long to) {
        long sum = 0;
        TreeMap<Long, Quotient> entries = knownMap(map).entries;
        for (long key : entries.keySet()) {
            if (entries.comparator().compare(key, from) >= 0 && entries.comparator().compare(key, to) <= 0) {
                sum += need(entries.get(key));
            }
        }
        return sum;
    }

    // ---- rows

    int row() {
        return isFull() ? -4 : made(new RowModel(List.of()));
    }

    int add(int row, boolean ahead, long item) {
        RowModel old = rowAt(row);
        if (old == null) {
            return -1;
        }
        return ahead ? joined(List.of(item), old.items) : joined(old.items, List.of(item));
    }

    int join(int a, int b) {
        return rowAt(a) == null || rowAt(b) == null ? -1 : joined(rowAt(a).items, rowAt(b).items);
    }

    private int joined(List<Long> a, List<Long> b) {
        if (isFull()) {
            return -4;
        }
        List<Long> items = new ArrayList<>(a);
        items.addAll(b);
        return items.size() > 100 ? -2 : made(new RowModel(items));
    }

    int cut(int row, int n, int side) {
        RowModel old = rowAt(row);
        if (old == null) {
            return -1;
        }
        if (n < 0 || n > old.items.size() || (side != 0 && side != 1)) {
            return -2;
        }
        if (isFull()) {
            return -4;
        }
        List<Long> items = side == 0 ? old.items.subList(0, n) : old.items.subList(n, old.items.size());
        return made(new RowModel(new ArrayList<>(items)));
    }

    int replace(int row, int place, long item) {
        RowModel old = rowAt(row);
        if (old == null) {
            return -1;
        }
        if (place < 0 || place >= old.items.size()) {
            return -2;
        }
        if (isFull()) {
            return -4;
        }
        List<Long> items = new ArrayList<>(old.items);
        items.set(place, item);
        return made(new RowModel(items));
    }

    int turned(int row) {
        RowModel old = rowAt(row);
        if (old == null) {
            return -1;
        }
        if (isFull()) {
            return -4;
        }
        List<Long> items = new ArrayList<>(old.items);
        Collections.reverse(items);
        return made(new RowModel(items));
    }

    long at(int row, int place) {
        if (rowAt(row) == null) {
            throw new IllegalArgumentException();
        }
        return rowAt(row).items.get(inside(place, rowAt(row).items.size()));
    }

    int find(int row, int place, long least) {
        RowModel asked = rowAt(row);
        if (asked == null) {
            return -1;
        }
        if (place < 0) {
            return -2;
        }
        for (int i = 0; i < asked.items.size(); i++) {
            if (i >= place && asked.items.get(i) >= least) {
                return i;
            }
        }
        return -3;
    }

    // ---- heaps

    int heap() {
        return isFull() ? -4 : made(new HeapModel(List.of()));
    }

    int push(int heap, long item) {
        return heapAt(heap) == null ? -1 : melded(heapAt(heap).items, List.of(item));
    }

    int meld(int a, int b) {
        return heapAt(a) == null || heapAt(b) == null ? -1 : melded(heapAt(a).items, heapAt(b).items);
    }

    private int melded(List<Long> a, List<Long> b) {
        if (isFull()) {
            return -4;
        }
        List<Long> items = new ArrayList<>(a);
        items.addAll(b);
        return items.size() > 100 ? -2 : made(new HeapModel(items));
    }

    int pop(int heap) {
        HeapModel old = heapAt(heap);
        if (old == null) {
            return -1;
        }
        if (isFull()) {
            return -4;
        }
        if (old.items.isEmpty()) {
            return -3;
        }
        List<Long> items = new ArrayList<>(old.items);
        items.remove(Collections.min(items));
        return made(new HeapModel(items));
    }

    long least(int heap) {
        if (heapAt(heap) == null) {
            throw new IllegalArgumentException();
        }
        if (heapAt(heap).items.isEmpty()) {
            throw new NoSuchElementException();
        }
        return Collections.min(heapAt(heap).items);
    }

    // ---- all

    int size(int thing) {
        return thingAt(thing) == null ? -1 : members(thingAt(thing)).size();
    }

    int same(int a, int b) {
        Object first = thingAt(a);
        Object second = thingAt(b);
        if (first == null || second == null) {
            return -1;
        }
        if (first.getClass() != second.getClass()) {
            return 0;
        }
        if (first instanceof MapModel x && second instanceof MapModel y && x.bits != y.bits) {
            return 0;
        }
        List<Long> left = members(first);
        List<Long> right = members(second);
        if (first instanceof HeapModel) {
            Collections.sort(left);
            Collections.sort(right);
        }
        return left.equals(right) ? 1 : 0;
    }

    boolean sound(int thing) {
        return thingAt(thing) != null;
    }

    int worked() {
        return worked;
    }

    int told(int what) {
        Class<?>[] sorts = {Object.class, MapModel.class, RowModel.class, HeapModel.class};
        if (what < 0 || what > 3) {
            return -2;
        }
        return (int) things.stream().filter(sorts[what]::isInstance).count();
    }

    /** The number by which told() asks for the thing's sort, 0 of an unknown one. */
    int sortOf(int thing) {
        Object asked = thingAt(thing);
        if (asked == null) {
            return 0;
        }
        return asked instanceof MapModel ? 1 : asked instanceof RowModel ? 2 : 3;
    }

    // ---- helpers

    private long need(Quotient value) {
        if (value.number == null) {
            worked++;
            if (value.d == 0) {
                throw new ArithmeticException();
            }
            value.number = value.n / value.d;
        }
        return value.number;
    }

    private static int inside(int place, int size) {
        if (place < 0 || place >= size) {
            throw new IndexOutOfBoundsException();
        }
        return place;
    }

    private static List<Long> members(Object thing) {
        if (thing instanceof MapModel map) {
            return new ArrayList<>(map.entries.keySet());
        }
        return new ArrayList<>(thing instanceof RowModel row ? row.items : ((HeapModel) thing).items);
    }

    private static MapModel copy(MapModel old) {
        return new MapModel(old.bits, old.strict, new TreeMap<>(old.entries));
    }

    private boolean isFull() {
        return things.size() == 300;
    }

    private int made(Object thing) {
        things.add(thing);
        return things.size() - 1;
    }

    private Object thingAt(int number) {
        return number < 0 || number >= things.size() ? null : things.get(number);
    }

    private MapModel mapAt(int number) {
        return thingAt(number) instanceof MapModel found ? found : null;
    }

    private RowModel rowAt(int number) {
        return thingAt(number) instanceof RowModel found ? found : null;
    }

    private HeapModel heapAt(int number) {
        return thingAt(number) instanceof HeapModel found ? found : null;
    }

    private MapModel knownMap(int number) {
        if (mapAt(number) == null) {
            throw new IllegalArgumentException();
        }
        return mapAt(number);
    }
}
