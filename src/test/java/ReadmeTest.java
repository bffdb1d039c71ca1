/** The example of README.md, call by call, with the answers that it tells. */
public final class ReadmeTest {
    private static final Check CHECK = new Check("ReadmeTest");

    public static void main(String[] args) {
        OrderedMaps x = new OrderedMaps();
        maps(x);
        rows(x);
        heaps(x);
        cleared(x);
        CHECK.end();
    }

    private static void maps(OrderedMaps x) {
        int none = x.map(false, false);
        int one = x.put(none, 5, 10, 2);
        int two = x.put(one, -3, 9, 0);
        CHECK.due("x.get(two, 5)", x.get(two, 5), 5);
        CHECK.due("x.fold(two, 0, 10)", x.fold(two, 0, 10), 5);
        CHECK.fails("x.get(two, -3)", ArithmeticException.class, () -> x.get(two, -3));
        CHECK.due("x.has(one, -3)", x.has(one, -3), false);
        CHECK.due("x.worked()", x.worked(), 2);
        int bits = x.map(true, true);
        int wide = x.put(x.put(bits, -1, 6, 3), 1, 8, 3);
        CHECK.due("x.key(wide, 0)", x.key(wide, 0), 1);
        int things = x.told(0);
        CHECK.fails("x.put(wide, 2, 1, 0)", ArithmeticException.class, () -> x.put(wide, 2, 1, 0));
        CHECK.due("things after it", x.told(0), things);
        CHECK.due("x.union(wide, two)", x.union(wide, two), -3);
    }

    private static void rows(OrderedMaps x) {
        int row = x.add(x.add(x.row(), false, 1), true, 0);
        int joined = x.join(row, x.turned(row));
        int rest = x.cut(joined, 1, 1);
        CHECK.due("row", items(x, row), "0, 1");
        CHECK.due("joined", items(x, joined), "0, 1, 1, 0");
        CHECK.due("rest", items(x, rest), "1, 1, 0");
        CHECK.due("x.find(joined, 2, 1)", x.find(joined, 2, 1), 2);
    }

    private static void heaps(OrderedMaps x) {
        int heap = x.meld(x.push(x.heap(), 4), x.push(x.heap(), 2));
        CHECK.due("x.least(heap)", x.least(heap), 2);
        CHECK.due("x.least(x.pop(heap))", x.least(x.pop(heap)), 4);
    }

    private static void cleared(OrderedMaps x) {
        x.clear();
        CHECK.due("the next number after x.clear()", x.row(), 0);
    }

    private static String items(OrderedMaps x, int row) {
        StringBuilder items = new StringBuilder();
        for (int place = 0; place < x.size(row); place++) {
            items.append(place == 0 ? "" : ", ").append(x.at(row, place));
        }
        return items.toString();
    }
}
