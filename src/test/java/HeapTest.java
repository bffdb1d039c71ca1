import java.util.NoSuchElementException;

/** Promises 24 to 28: heaps. */
public final class HeapTest {
    private static final Check CHECK = new Check("HeapTest");

    public static void main(String[] args) {
        promise24Heap();
        promise25Push();
        promise26Meld();
        promise27Pop();
        promise28Least();
        CHECK.end();
    }

    /** Empties copies of the heap: the items must come from the least on. */
    private static void dueItems(OrderedMaps x, String call, int heap, long... items) {
        CHECK.due("size of " + call, x.size(heap), items.length);
        int rest = heap;
        for (long item : items) {
            int asked = rest;
            CHECK.due("least of " + call, Check.answerOf(() -> x.least(asked)), Long.toString(item));
            CHECK.due("sound of " + call, x.sound(rest), true);
            rest = x.pop(rest);
        }
        CHECK.due("the end of " + call, x.pop(rest), -3);
        CHECK.due("sound of the end of " + call, x.sound(rest), true);
    }

    private static void promise24Heap() {
        OrderedMaps x = new OrderedMaps();
        CHECK.due("heap", x.heap(), 0);
        CHECK.due("another heap", x.heap(), 1);
        dueItems(x, "heap 0", 0);
        CHECK.due("told heaps", x.told(3), 2);
    }

    private static void promise25Push() {
        OrderedMaps x = new OrderedMaps();
        x.heap();
        CHECK.due("push", x.push(0, 5), 1);
        CHECK.due("push a lower one", x.push(1, -5), 2);
        CHECK.due("push one between", x.push(2, 0), 3);
        CHECK.due("push one again", x.push(3, 5), 4);
        CHECK.due("push to an old one", x.push(1, 7), 5);
        dueItems(x, "heap 4", 4, -5, 0, 5, 5);
        dueItems(x, "heap 5", 5, 5, 7);
        dueItems(x, "heap 1", 1, 5);
        dueItems(x, "the ends", Things.heapOf(x, Long.MAX_VALUE, 0, Long.MIN_VALUE), Long.MIN_VALUE, 0, Long.MAX_VALUE);
        CHECK.due("push unknown", x.push(299, 1), -1);
        CHECK.due("push below 0", x.push(-1, 1), -1);
        int map = x.map(false, false);
        int row = x.row();
        CHECK.due("push to a map", x.push(map, 1), -1);
        CHECK.due("push to a row", x.push(row, 1), -1);
    }

    private static void promise26Meld() {
        OrderedMaps x = new OrderedMaps();
        int a = Things.heapOf(x, 4, 1, 9);
        int b = Things.heapOf(x, 2, 4);
        int none = x.heap();
        dueItems(x, "a, b", x.meld(a, b), 1, 2, 4, 4, 9);
        dueItems(x, "b, a", x.meld(b, a), 1, 2, 4, 4, 9);
        dueItems(x, "a, a", x.meld(a, a), 1, 1, 4, 4, 9, 9);
        dueItems(x, "a, none", x.meld(a, none), 1, 4, 9);
        dueItems(x, "none, a", x.meld(none, a), 1, 4, 9);
        dueItems(x, "none, none", x.meld(none, none));
        dueItems(x, "a after it", a, 1, 4, 9);
        int map = x.map(false, false);
        int row = x.row();
        for (int other : new int[] {map, row, -1, 299, Integer.MAX_VALUE}) {
            CHECK.due("meld unknown", x.meld(a, other), -1);
            CHECK.due("meld unknown, turned", x.meld(other, a), -1);
        }
    }

    private static void promise27Pop() {
        OrderedMaps x = new OrderedMaps();
        int heap = Things.heapOf(x, 3, 1, 1);
        int next = x.told(0);
        CHECK.due("pop", x.pop(heap), next);
        CHECK.due("once of two", x.least(next), 1);
        CHECK.due("one less", x.size(next), 2);
        CHECK.due("pop again", x.pop(next), next + 1);
        CHECK.due("the next", x.least(next + 1), 3);
        CHECK.due("pop the last", x.pop(next + 1), next + 2);
        CHECK.due("none is left", x.size(next + 2), 0);
        CHECK.due("pop of none", x.pop(next + 2), -3);
        CHECK.due("the old one stays", x.size(heap), 3);
        CHECK.due("unknown", x.pop(99), -1);
        int row = x.add(x.row(), true, 1);
        CHECK.due("of a row", x.pop(row), -1);
    }

    private static void promise28Least() {
        OrderedMaps x = new OrderedMaps();
        CHECK.due("least", x.least(Things.heapOf(x, 3, -1, 2)), -1);
        CHECK.due("as longs", x.least(Things.heapOf(x, 0, Long.MAX_VALUE, Long.MIN_VALUE)), Long.MIN_VALUE);
        CHECK.fails("of none", NoSuchElementException.class, () -> x.least(0));
        CHECK.fails("unknown", IllegalArgumentException.class, () -> x.least(99));
        CHECK.fails("below 0", IllegalArgumentException.class, () -> x.least(-1));
        int row = x.add(x.row(), true, 1);
        CHECK.fails("of a row", IllegalArgumentException.class, () -> x.least(row));
    }
}
