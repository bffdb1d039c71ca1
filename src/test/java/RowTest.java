/** Promises 16 to 23: rows. */
public final class RowTest {
    private static final Check CHECK = new Check("RowTest");

    public static void main(String[] args) {
        promise16Row();
        promise17Add();
        promise18Join();
        promise19Cut();
        promise20Replace();
        promise21Turned();
        promise22At();
        promise23Find();
        CHECK.end();
    }

    private static void dueItems(OrderedMaps x, String call, int row, long... items) {
        CHECK.due("size of " + call, x.size(row), items.length);
        for (int i = 0; i < items.length; i++) {
            int place = i;
            CHECK.due("item " + i + " of " + call, Check.answerOf(() -> x.at(row, place)), Long.toString(items[i]));
        }
        CHECK.due("sound of " + call, x.sound(row), true);
    }

    private static void promise16Row() {
        OrderedMaps x = new OrderedMaps();
        CHECK.due("row", x.row(), 0);
        CHECK.due("another row", x.row(), 1);
        dueItems(x, "row 0", 0);
        CHECK.due("told rows", x.told(2), 2);
    }

    private static void promise17Add() {
        OrderedMaps x = new OrderedMaps();
        x.row();
        CHECK.due("add behind", x.add(0, false, 1), 1);
        CHECK.due("add behind again", x.add(1, false, 2), 2);
        CHECK.due("add ahead", x.add(2, true, 0), 3);
        CHECK.due("add to an old one", x.add(1, true, 9), 4);
        dueItems(x, "row 0", 0);
        dueItems(x, "row 1", 1, 1);
        dueItems(x, "row 2", 2, 1, 2);
        dueItems(x, "row 3", 3, 0, 1, 2);
        dueItems(x, "row 4", 4, 9, 1);
        CHECK.due("add unknown", x.add(5, true, 1), -1);
        CHECK.due("add below 0", x.add(-1, true, 1), -1);
        int map = x.map(false, false);
        int heap = x.heap();
        CHECK.due("add to a map", x.add(map, true, 1), -1);
        CHECK.due("add to a heap", x.add(heap, false, 1), -1);
    }

    private static void promise18Join() {
        OrderedMaps x = new OrderedMaps();
        int a = Things.rowOf(x, 3, 1);
        int b = Things.rowOf(x, 2, 9, 4);
        int none = x.row();
        dueItems(x, "a, b", x.join(a, b), 3, 1, 2, 9, 4);
        dueItems(x, "b, a", x.join(b, a), 2, 9, 4, 3, 1);
        dueItems(x, "a, a", x.join(a, a), 3, 1, 3, 1);
        dueItems(x, "a, none", x.join(a, none), 3, 1);
        dueItems(x, "none, a", x.join(none, a), 3, 1);
        dueItems(x, "none, none", x.join(none, none));
        dueItems(x, "a after it", a, 3, 1);
        int map = x.map(false, false);
        int heap = x.heap();
        for (int other : new int[] {map, heap, -1, 99, Integer.MIN_VALUE}) {
            CHECK.due("join unknown", x.join(a, other), -1);
            CHECK.due("join unknown, turned", x.join(other, a), -1);
        }
    }

    private static void promise19Cut() {
        OrderedMaps x = new OrderedMaps();
        int row = Things.rowOf(x, 5, 6, 7);
        dueItems(x, "the first 2", x.cut(row, 2, 0), 5, 6);
        dueItems(x, "the others", x.cut(row, 2, 1), 7);
        dueItems(x, "the first 0", x.cut(row, 0, 0));
        dueItems(x, "the others of 0", x.cut(row, 0, 1), 5, 6, 7);
        dueItems(x, "the first 3", x.cut(row, 3, 0), 5, 6, 7);
        dueItems(x, "the others of 3", x.cut(row, 3, 1));
        dueItems(x, "of none", x.cut(0, 0, 1));
        dueItems(x, "the old row", row, 5, 6, 7);
        int things = x.told(0);
        CHECK.due("n 4", x.cut(row, 4, 0), -2);
        CHECK.due("n 4, the others", x.cut(row, 4, 1), -2);
        CHECK.due("n -1", x.cut(row, -1, 0), -2);
        CHECK.due("n the most", x.cut(row, Integer.MAX_VALUE, 1), -2);
        CHECK.due("n the least", x.cut(row, Integer.MIN_VALUE, 1), -2);
        CHECK.due("side 2", x.cut(row, 1, 2), -2);
        CHECK.due("side -1", x.cut(row, 1, -1), -2);
        CHECK.due("unknown", x.cut(99, 1, 0), -1);
        CHECK.due("unknown comes first", x.cut(99, -1, 2), -1);
        CHECK.due("no thing was made", x.told(0), things);
    }

    private static void promise20Replace() {
        OrderedMaps x = new OrderedMaps();
        int row = Things.rowOf(x, 5, 6, 7);
        dueItems(x, "the first", x.replace(row, 0, 1), 1, 6, 7);
        dueItems(x, "the middle", x.replace(row, 1, 1), 5, 1, 7);
        dueItems(x, "the last", x.replace(row, 2, 1), 5, 6, 1);
        dueItems(x, "the old row", row, 5, 6, 7);
        CHECK.due("place 3", x.replace(row, 3, 1), -2);
        CHECK.due("place -1", x.replace(row, -1, 1), -2);
        CHECK.due("place the least", x.replace(row, Integer.MIN_VALUE, 1), -2);
        CHECK.due("of none", x.replace(0, 0, 1), -2);
        CHECK.due("unknown", x.replace(99, 0, 1), -1);
        CHECK.due("unknown comes first", x.replace(99, -1, 1), -1);
        int heap = x.heap();
        CHECK.due("of a heap", x.replace(heap, 0, 1), -1);
    }

    private static void promise21Turned() {
        OrderedMaps x = new OrderedMaps();
        int row = Things.rowOf(x, 5, 6, 7);
        int other = x.turned(row);
        dueItems(x, "turned", other, 7, 6, 5);
        dueItems(x, "turned twice", x.turned(other), 5, 6, 7);
        dueItems(x, "the old row", row, 5, 6, 7);
        dueItems(x, "an even row", x.turned(Things.rowOf(x, 1, 2, 3, 4)), 4, 3, 2, 1);
        dueItems(x, "of none", x.turned(0));
        CHECK.due("unknown", x.turned(99), -1);
        int map = x.map(false, false);
        CHECK.due("of a map", x.turned(map), -1);
    }

    private static void promise22At() {
        OrderedMaps x = new OrderedMaps();
        int row = Things.rowOf(x, Long.MIN_VALUE, 0, Long.MAX_VALUE);
        dueItems(x, "at", row, Long.MIN_VALUE, 0, Long.MAX_VALUE);
        CHECK.fails("place 3", IndexOutOfBoundsException.class, () -> x.at(row, 3));
        CHECK.fails("place -1", IndexOutOfBoundsException.class, () -> x.at(row, -1));
        CHECK.fails("place the least", IndexOutOfBoundsException.class, () -> x.at(row, Integer.MIN_VALUE));
        CHECK.fails("of none", IndexOutOfBoundsException.class, () -> x.at(0, 0));
        CHECK.fails("unknown", IllegalArgumentException.class, () -> x.at(99, 0));
        CHECK.fails("unknown comes first", IllegalArgumentException.class, () -> x.at(99, -1));
        int heap = x.push(x.heap(), 1);
        CHECK.fails("of a heap", IllegalArgumentException.class, () -> x.at(heap, 0));
    }

    private static void promise23Find() {
        OrderedMaps x = new OrderedMaps();
        int row = Things.rowOf(x, 2, -9, 5, 5, 1);
        CHECK.due("from 0, 2", x.find(row, 0, 2), 0);
        CHECK.due("from 1, 2", x.find(row, 1, 2), 2);
        CHECK.due("from 3, 5", x.find(row, 3, 5), 3);
        CHECK.due("from 4, 5", x.find(row, 4, 5), -3);
        CHECK.due("from 4, 1", x.find(row, 4, 1), 4);
        CHECK.due("from 1, the least", x.find(row, 1, Long.MIN_VALUE), 1);
        CHECK.due("too large", x.find(row, 0, 6), -3);
        CHECK.due("from the end", x.find(row, 5, Long.MIN_VALUE), -3);
        CHECK.due("from far behind", x.find(row, Integer.MAX_VALUE, 0), -3);
        CHECK.due("of none", x.find(0, 0, 0), -3);
        CHECK.due("from -1", x.find(row, -1, 0), -2);
        CHECK.due("from the least", x.find(row, Integer.MIN_VALUE, 0), -2);
        CHECK.due("unknown", x.find(99, 0, 0), -1);
        CHECK.due("unknown comes first", x.find(99, -1, 0), -1);
        int map = x.map(false, false);
        CHECK.due("of a map", x.find(map, 0, 0), -1);
    }
}
