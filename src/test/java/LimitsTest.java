import java.util.NoSuchElementException;

/** The limits of all promises, 300 things and 100 keys or items, and the order in which codes and exceptions come. */
public final class LimitsTest {
    private static final int MOST_THINGS = 300;
    private static final Check CHECK = new Check("LimitsTest");

    public static void main(String[] args) {
        hundredKeys(false);
        hundredKeys(true);
        hundredKeysOfTwo();
        hundredItemsInRows();
        hundredItemsInHeaps();
        fullMaps();
        fullRows();
        fullHeaps();
        fullWithHundredKeys();
        fullWithHundredItems();
        CHECK.end();
    }

    private static int mapOf(OrderedMaps x, boolean strict, int from, int to) {
        int map = x.map(false, strict);
        for (int key = from; key < to; key++) {
            map = x.put(map, key, key, 1);
        }
        return map;
    }

    private static int rowOf(OrderedMaps x, int count) {
        int row = x.row();
        for (int item = 0; item < count; item++) {
            row = x.add(row, false, item);
        }
        return row;
    }

    private static int heapOf(OrderedMaps x, int count) {
        int heap = x.heap();
        for (int item = 0; item < count; item++) {
            heap = x.push(heap, item);
        }
        return heap;
    }

    private static void fill(OrderedMaps x) {
        for (int i = x.told(0); i < MOST_THINGS; i++) {
            CHECK.due("the next number", x.row(), i);
        }
    }

    private static void hundredKeys(boolean strict) {
        OrderedMaps x = new OrderedMaps();
        int map = mapOf(x, strict, 0, 100);
        int worked = x.worked();
        CHECK.due("100 keys", x.size(map), 100);
        CHECK.due("a key more", x.put(map, 100, 1, 1), -2);
        CHECK.due("a key more before all", x.put(map, -1, 1, 1), -2);
        CHECK.due("a key more comes before a value that fails", x.put(map, 100, 1, 0), -2);
        CHECK.due("and works nothing", x.worked(), worked);
        CHECK.due("in place of one", x.put(map, 99, 5, 1), 101);
        CHECK.due("100 keys yet", x.size(101), 100);
        CHECK.due("sound", x.sound(101), true);
    }

    private static void hundredKeysOfTwo() {
        OrderedMaps x = new OrderedMaps();
        int a = mapOf(x, false, 0, 60);
        int b = mapOf(x, false, 60, 100);
        int c = mapOf(x, false, 59, 100);
        int d = mapOf(x, false, 60, 101);
        CHECK.due("just 100", x.size(x.union(a, b)), 100);
        CHECK.due("just 100, one of both", x.size(x.union(a, c)), 100);
        CHECK.due("101", x.union(a, d), -2);
        CHECK.due("101, turned", x.union(d, a), -2);
        int all = x.union(a, b);
        CHECK.due("100 with 100", x.size(x.union(all, all)), 100);
        CHECK.due("both of 100", x.size(x.both(all, all)), 100);
        CHECK.due("less of 100", x.size(x.less(all, d)), 60);
        x.clear();
        int low = mapOf(x, false, 0, 100);
        int high = mapOf(x, false, 100, 200);
        CHECK.due("200", x.union(low, high), -2);
        CHECK.due("both of 200", x.size(x.both(low, high)), 0);
        CHECK.due("less of 200", x.size(x.less(low, high)), 100);
    }

    private static void hundredItemsInRows() {
        OrderedMaps x = new OrderedMaps();
        int row = rowOf(x, 100);
        CHECK.due("100 items", x.size(row), 100);
        CHECK.due("an item more", x.add(row, false, 1), -2);
        CHECK.due("an item more ahead", x.add(row, true, 1), -2);
        CHECK.due("join 100, 1", x.join(row, 1), -2);
        CHECK.due("join 1, 100", x.join(1, row), -2);
        CHECK.due("join 100, 0", x.size(x.join(row, 0)), 100);
        CHECK.due("join 60, 40", x.size(x.join(60, 40)), 100);
        CHECK.due("join 60, 41", x.join(60, 41), -2);
        CHECK.due("turned", x.at(x.turned(row), 0), 99);
        CHECK.due("replace", x.at(x.replace(row, 99, 7), 99), 7);
        CHECK.due("cut 100", x.size(x.cut(row, 100, 0)), 100);
        CHECK.due("cut 101", x.cut(row, 101, 0), -2);
        CHECK.due("the last found", x.find(row, 0, 99), 99);
    }

    private static void hundredItemsInHeaps() {
        OrderedMaps x = new OrderedMaps();
        int heap = heapOf(x, 100);
        CHECK.due("100 items", x.size(heap), 100);
        CHECK.due("an item more", x.push(heap, 1), -2);
        CHECK.due("meld 100, 1", x.meld(heap, 1), -2);
        CHECK.due("meld 1, 100", x.meld(1, heap), -2);
        CHECK.due("meld 100, 0", x.size(x.meld(heap, 0)), 100);
        CHECK.due("meld 60, 40", x.size(x.meld(60, 40)), 100);
        CHECK.due("meld 60, 41", x.meld(60, 41), -2);
        CHECK.due("pop", x.least(x.pop(heap)), 1);
    }

    private static void fullMaps() {
        OrderedMaps x = new OrderedMaps();
        int map = mapOf(x, true, 0, 2);
        int lazy = x.map(false, false);
        fill(x);
        int worked = x.worked();
        CHECK.due("map", x.map(true, true), -4);
        CHECK.due("put", x.put(map, 5, 1, 1), -4);
        CHECK.due("put comes before a value that fails", x.put(map, 5, 1, 0), -4);
        CHECK.due("and works nothing", x.worked(), worked);
        CHECK.due("put unknown", x.put(MOST_THINGS, 5, 1, 1), -1);
        CHECK.due("drop", x.drop(map, 1), -4);
        CHECK.due("drop comes before the key", x.drop(map, 9), -4);
        CHECK.due("drop unknown", x.drop(299, 9), -1);
        CHECK.due("union", x.union(map, map), -4);
        CHECK.due("union unlike", x.union(map, lazy), -3);
        CHECK.due("union unknown", x.union(map, 299), -1);
        CHECK.due("both", x.both(map, map), -4);
        CHECK.due("both unlike", x.both(map, lazy), -3);
        CHECK.due("both unknown", x.both(299, map), -1);
        CHECK.due("less", x.less(map, map), -4);
        CHECK.due("less unlike", x.less(map, lazy), -3);
        CHECK.due("less unknown", x.less(map, -1), -1);
        CHECK.due("part", x.part(map, 0, 1), -4);
        CHECK.due("part by a wrong side", x.part(map, 0, 2), -2);
        CHECK.due("part unknown", x.part(299, 0, 2), -1);
        CHECK.due("kept", x.kept(map, 1, 0), -4);
        CHECK.due("kept by a wrong m", x.kept(map, 0, 0), -2);
        CHECK.due("kept unknown", x.kept(299, 0, 0), -1);
        CHECK.due("get", x.get(map, 1), 1);
        CHECK.fails("get of no key", NoSuchElementException.class, () -> x.get(map, 9));
        CHECK.due("things", x.told(0), MOST_THINGS);
    }

    private static void fullRows() {
        OrderedMaps x = new OrderedMaps();
        int map = x.map(false, false);
        int row = rowOf(x, 2);
        fill(x);
        CHECK.due("row", x.row(), -4);
        CHECK.due("add", x.add(row, true, 1), -4);
        CHECK.due("add unknown", x.add(map, true, 1), -1);
        CHECK.due("join", x.join(row, row), -4);
        CHECK.due("join unknown", x.join(row, map), -1);
        CHECK.due("cut", x.cut(row, 1, 0), -4);
        CHECK.due("cut by a wrong n", x.cut(row, 3, 0), -2);
        CHECK.due("cut by a wrong side", x.cut(row, 1, 2), -2);
        CHECK.due("cut unknown", x.cut(map, 3, 0), -1);
        CHECK.due("replace", x.replace(row, 1, 1), -4);
        CHECK.due("replace at a wrong place", x.replace(row, 2, 1), -2);
        CHECK.due("replace unknown", x.replace(map, 2, 1), -1);
        CHECK.due("turned", x.turned(row), -4);
        CHECK.due("turned unknown", x.turned(map), -1);
        CHECK.due("at", x.at(row, 1), 1);
        CHECK.due("the last thing", x.size(299), 0);
        CHECK.due("behind the last thing", x.size(300), -1);
    }

    private static void fullHeaps() {
        OrderedMaps x = new OrderedMaps();
        int none = x.heap();
        int heap = heapOf(x, 2);
        fill(x);
        CHECK.due("heap", x.heap(), -4);
        CHECK.due("push", x.push(heap, 1), -4);
        CHECK.due("push unknown", x.push(299, 1), -1);
        CHECK.due("meld", x.meld(heap, heap), -4);
        CHECK.due("meld unknown", x.meld(heap, 299), -1);
        CHECK.due("pop", x.pop(heap), -4);
        CHECK.due("pop comes before having none", x.pop(none), -4);
        CHECK.due("pop unknown", x.pop(299), -1);
        CHECK.due("least", x.least(heap), 0);
    }

    private static void fullWithHundredKeys() {
        OrderedMaps x = new OrderedMaps();
        int low = mapOf(x, true, 0, 100);
        int high = mapOf(x, true, 100, 200);
        fill(x);
        CHECK.due("put of a key more", x.put(low, 100, 1, 0), -4);
        CHECK.due("union of more than 100", x.union(low, high), -4);
    }

    private static void fullWithHundredItems() {
        OrderedMaps x = new OrderedMaps();
        int row = rowOf(x, 100);
        int heap = heapOf(x, 100);
        fill(x);
        CHECK.due("add of an item more", x.add(row, false, 1), -4);
        CHECK.due("join of more than 100", x.join(row, row), -4);
        CHECK.due("push of an item more", x.push(heap, 1), -4);
        CHECK.due("meld of more than 100", x.meld(heap, heap), -4);
    }
}
