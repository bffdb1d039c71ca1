/** Promises 1, 2 and 29 to 33: a new object, clear, and what is asked of all sorts. */
public final class AllTest {
    private static final Check CHECK = new Check("AllTest");

    public static void main(String[] args) {
        promise1NewObject();
        promise2Clear();
        promise29Size();
        promise30SameMaps();
        promise30SameRowsAndHeaps();
        promise31Sound();
        promise32Worked();
        promise33Told();
        CHECK.end();
    }

    private static void promise1NewObject() {
        OrderedMaps x = new OrderedMaps();
        for (int what = 0; what < 4; what++) {
            CHECK.due("told " + what, x.told(what), 0);
        }
        CHECK.due("worked", x.worked(), 0);
        CHECK.due("size 0", x.size(0), -1);
        x.put(x.map(false, true), 1, 1, 1);
        OrderedMaps other = new OrderedMaps();
        CHECK.due("objects share no things", other.told(0), 0);
        CHECK.due("nor what was worked", other.worked(), 0);
        CHECK.due("NONE", OrderedMaps.NONE, -1);
    }

    private static void promise2Clear() {
        OrderedMaps x = new OrderedMaps();
        x.put(x.map(false, true), 1, 1, 1);
        x.row();
        x.heap();
        x.clear();
        for (int what = 0; what < 4; what++) {
            CHECK.due("told " + what, x.told(what), 0);
        }
        CHECK.due("worked stays", x.worked(), 1);
        for (int thing = 0; thing < 4; thing++) {
            CHECK.due("size " + thing, x.size(thing), -1);
            CHECK.due("sound " + thing, x.sound(thing), false);
        }
        CHECK.due("numbers from 0 again", x.row(), 0);
        CHECK.due("a thing of the new sort", x.add(0, true, 1), 1);
        CHECK.due("the old numbers are unknown yet", x.size(2), -1);
        x.clear();
        x.clear();
        CHECK.due("cleared twice", x.told(0), 0);
        for (int i = 0; i < 300; i++) {
            x.heap();
        }
        CHECK.due("full", x.heap(), -4);
        x.clear();
        CHECK.due("room again", x.heap(), 0);
    }

    private static void promise29Size() {
        OrderedMaps x = new OrderedMaps();
        int map = x.put(x.put(x.map(false, false), 1, 1, 0), 2, 1, 1);
        int row = x.add(x.row(), true, 1);
        int heap = x.push(x.push(x.push(x.heap(), 1), 1), 1);
        CHECK.due("of a map", x.size(map), 2);
        CHECK.due("of a row", x.size(row), 1);
        CHECK.due("of a heap", x.size(heap), 3);
        CHECK.due("of none", x.size(0), 0);
        CHECK.due("works nothing", x.worked(), 0);
        for (int unknown : new int[] {-1, x.told(0), 299, 300, Integer.MIN_VALUE, Integer.MAX_VALUE}) {
            CHECK.due("unknown " + unknown, x.size(unknown), -1);
        }
    }

    private static void promise30SameMaps() {
        OrderedMaps x = new OrderedMaps();
        int lazy = x.put(x.put(x.map(false, false), 1, 1, 1), -2, 2, 0);
        int strict = x.put(x.put(x.map(false, true), -2, 8, 1), 1, 9, 1);
        int fewer = x.drop(lazy, 1);
        int other = x.put(fewer, 3, 1, 1);
        int bits = x.put(x.put(x.map(true, false), 1, 1, 1), -2, 2, 1);
        int none = x.map(false, true);
        int noneByBits = x.map(true, true);
        int worked = x.worked();
        CHECK.due("itself", x.same(lazy, lazy), 1);
        CHECK.due("whatever values, strict or not", x.same(lazy, strict), 1);
        CHECK.due("turned", x.same(strict, lazy), 1);
        CHECK.due("fewer keys", x.same(lazy, fewer), 0);
        CHECK.due("more keys", x.same(fewer, lazy), 0);
        CHECK.due("another key", x.same(lazy, other), 0);
        CHECK.due("another order", x.same(lazy, bits), 0);
        CHECK.due("without keys", x.same(0, none), 1);
        CHECK.due("without keys, another order", x.same(none, noneByBits), 0);
        int single = x.put(x.map(false, false), 5, 1, 1);
        int singleByBits = x.put(x.map(true, false), 5, 1, 1);
        CHECK.due("one key, another order", x.same(single, singleByBits), 0);
        CHECK.due("works nothing", x.worked(), worked);
    }

    private static void promise30SameRowsAndHeaps() {
        OrderedMaps x = new OrderedMaps();
        int row = x.add(x.add(x.row(), false, 1), false, 2);
        int sameRow = x.add(x.add(x.row(), true, 2), true, 1);
        int turned = x.turned(row);
        int longer = x.add(row, false, 2);
        int heap = x.push(x.push(x.heap(), 1), 2);
        int sameHeap = x.push(x.push(x.heap(), 2), 1);
        int oftener = x.push(heap, 1);
        int otherwise = x.push(heap, 2);
        CHECK.due("rows", x.same(row, sameRow), 1);
        CHECK.due("rows in other places", x.same(row, turned), 0);
        CHECK.due("another first item", x.same(row, x.replace(row, 0, 7)), 0);
        CHECK.due("another last item", x.same(row, x.replace(row, 1, 7)), 0);
        CHECK.due("a longer row", x.same(row, longer), 0);
        CHECK.due("a shorter row", x.same(longer, row), 0);
        CHECK.due("heaps", x.same(heap, sameHeap), 1);
        CHECK.due("an item oftener", x.same(heap, oftener), 0);
        CHECK.due("other items oftener", x.same(oftener, otherwise), 0);
        CHECK.due("a row and a heap", x.same(row, heap), 0);
        int map = x.map(false, false);
        int noRow = x.row();
        int noHeap = x.heap();
        CHECK.due("a map and a row without any", x.same(map, noRow), 0);
        CHECK.due("a heap and a row without any", x.same(noHeap, noRow), 0);
        CHECK.due("a heap and a map without any", x.same(noHeap, map), 0);
        CHECK.due("a row and a map without any", x.same(noRow, map), 0);
        CHECK.due("unknown", x.same(row, 99), -1);
        CHECK.due("unknown, turned", x.same(99, row), -1);
        CHECK.due("unknown both", x.same(-1, -1), -1);
    }

    private static void promise31Sound() {
        OrderedMaps x = new OrderedMaps();
        for (int sort = 0; sort < 4; sort++) {
            int map = x.map(sort % 2 == 0, sort / 2 == 0);
            for (long key = -5; key < 5; key++) {
                map = x.put(map, key * 7 % 5, key, 2);
            }
        }
        int row = x.row();
        int heap = x.heap();
        for (int i = 0; i < 20; i++) {
            row = x.add(row, i % 3 == 0, -i);
            heap = x.push(heap, i * 7 % 11);
        }
        int things = x.told(0);
        for (int thing = 0; thing < things; thing++) {
            CHECK.due("sound " + thing, x.sound(thing), true);
        }
        int lazy = x.put(x.map(false, false), 1, 1, 0);
        int worked = x.worked();
        CHECK.due("a value that would fail", x.sound(lazy), true);
        CHECK.due("works nothing", x.worked(), worked);
        for (int unknown : new int[] {-1, x.told(0), 300, Integer.MIN_VALUE, Integer.MAX_VALUE}) {
            CHECK.due("unknown " + unknown, x.sound(unknown), false);
        }
    }

    private static void promise32Worked() {
        OrderedMaps x = new OrderedMaps();
        int strict = x.map(true, true);
        int lazy = x.map(true, false);
        CHECK.due("nothing yet", x.worked(), 0);
        x.put(strict, 1, 1, 1);
        CHECK.due("a strict put", x.worked(), 1);
        CHECK.fails("a strict put that fails", ArithmeticException.class, () -> x.put(strict, 1, 1, 0));
        CHECK.due("counts, too", x.worked(), 2);
        int failing = x.put(lazy, 1, 1, 0);
        CHECK.due("a lazy put", x.worked(), 2);
        CHECK.fails("a need that fails", ArithmeticException.class, () -> x.get(failing, 1));
        CHECK.due("counts, too, by need", x.worked(), 3);
        int shadowed = x.put(failing, 1, 4, 2);
        CHECK.due("the value in its place", x.fold(shadowed, 1, 1), 2);
        CHECK.due("is worked alone", x.worked(), 4);
        CHECK.due("put to nothing", x.put(99, 1, 1, 1), -1);
        CHECK.due("works nothing", x.worked(), 4);
    }

    private static void promise33Told() {
        OrderedMaps x = new OrderedMaps();
        x.put(x.map(false, false), 1, 1, 1);
        x.map(true, true);
        x.row();
        x.push(x.heap(), 1);
        x.add(2, true, 1);
        CHECK.due("things", x.told(0), 6);
        CHECK.due("maps", x.told(1), 3);
        CHECK.due("rows", x.told(2), 1);
        CHECK.due("heaps", x.told(3), 2);
        for (int what : new int[] {-1, 4, Integer.MIN_VALUE, Integer.MAX_VALUE}) {
            CHECK.due("told " + what, x.told(what), -2);
        }
    }
}
