/** Promises 24 to 28: each sentence that names a boundary case, by a test of its own. */
public final class HeapEdgeTest {
    private static final long LEAST = Long.MIN_VALUE;
    private static final long MOST = Long.MAX_VALUE;
    private static final String NO_HEAP = "throws.IllegalArgumentException";
    private static final String NO_ITEM = "throws.NoSuchElementException";
    private static final Check CHECK = new Check("HeapEdgeTest");

    public static void main(String[] args) {
        promise24FirstAndLastThing();
        pushTests();
        meldTests();
        popTests();
        leastTests();
        CHECK.end();
    }

    // ---- scenes

    private static Scene scene(Scene.Start start) {
        return new Scene(CHECK, start);
    }

    private static Scene full(Scene.Start start) {
        return new Scene(CHECK, Scene.filled(start, Things.MOST));
    }

    private static int[] nothing(OrderedMaps x) {
        return Things.numbers();
    }

    /** 0: a heap without items. */
    private static int[] empty(OrderedMaps x) {
        return Things.numbers(x.heap());
    }

    /** 0: a heap with the items 1, 3, 3. */
    private static int[] three(OrderedMaps x) {
        return Things.numbers(Things.heapOf(x, 3, 1, 3));
    }

    /** 0: a heap with the items 0 to 99. */
    private static int[] hundred(OrderedMaps x) {
        return Things.numbers(Things.heapOf(x, Things.range(0, 100)));
    }

    /** Two heaps, with the items from 0 up to before one number, and from there up to before another one. */
    private static Scene.Start two(int firstEnd, int to) {
        return x -> Things.numbers(
            Things.heapOf(x, Things.range(0, firstEnd)), Things.heapOf(x, Things.range(firstEnd, to)));
    }

    // ---- promise 24: heap

    /** "A HEAP without ITEMS: its number. -4." */
    private static void promise24FirstAndLastThing() {
        scene(HeapEdgeTest::nothing).takes("heap of a new object", (x, t) -> x.heap());
        scene(HeapEdgeTest::three).takes("heap besides", (x, t) -> x.heap());
        Scene.lastThing(CHECK, "heap", HeapEdgeTest::nothing, (x, t) -> x.heap());
    }

    // ---- promise 25: push

    private static void pushTests() {
        Scene.unknown(CHECK, "push", Scene.HEAP, "-1", (x, number) -> x.push(number, 1));
        Scene.lastThing(CHECK, "push", HeapEdgeTest::three, (x, t) -> x.push(t[0], 1));
        promise25TheHundredthItem();
        promise25FullComesBeforeMoreThanHundred();
        promise25ItemsAtTheEnds();
    }

    /** "-2": there would be more than 100. */
    private static void promise25TheHundredthItem() {
        Scene before = scene(x -> Things.numbers(Things.heapOf(x, Things.range(0, 99))));
        before.takes("push of the 100th item", (x, t) -> x.push(t[0], 99), Things.range(0, 100));
        before.takes("push of the 100th item, the least", (x, t) -> x.push(t[0], -1), Things.range(-1, 99));
        Scene hundred = scene(HeapEdgeTest::hundred);
        hundred.answers("push of the 101st item", -2, (x, t) -> x.push(t[0], 100));
        hundred.answers("push of the 101st item, the least", -2, (x, t) -> x.push(t[0], -1));
        hundred.answers("push of an item that it has", -2, (x, t) -> x.push(t[0], 50));
        scene(x -> Things.numbers(x.pop(hundred(x)[0])))
            .takes("push after a pop", (x, t) -> x.push(t[0], 0), Things.range(0, 100));
    }

    /** "-4; -2": the first that fits comes. */
    private static void promise25FullComesBeforeMoreThanHundred() {
        full(HeapEdgeTest::hundred).answers("push of the 101st, full", -4, (x, t) -> x.push(t[0], 1));
    }

    /** The least item is so as a long with its sign. */
    private static void promise25ItemsAtTheEnds() {
        Scene ends = scene(x -> Things.numbers(Things.heapOf(x, 0, MOST, LEAST, -1)));
        ends.takes("push of the least", (x, t) -> x.push(t[0], LEAST), LEAST, LEAST, -1, 0, MOST);
        ends.takes("push of the most", (x, t) -> x.push(t[0], MOST), LEAST, -1, 0, MOST, MOST);
        ends.takes("push of -2", (x, t) -> x.push(t[0], -2), LEAST, -2, -1, 0, MOST);
        scene(HeapEdgeTest::empty).takes("push to none", (x, t) -> x.push(t[0], -1), -1);
        scene(HeapEdgeTest::three).takes("push of what it has twice", (x, t) -> x.push(t[0], 3), 1, 3, 3, 3);
    }

    // ---- promise 26: meld

    private static void meldTests() {
        Scene.unknown(CHECK, "meld first", Scene.HEAP, "-1", (x, number) -> x.meld(number, Scene.KNOWN_HEAP));
        Scene.unknown(CHECK, "meld second", Scene.HEAP, "-1", (x, number) -> x.meld(Scene.KNOWN_HEAP, number));
        Scene.unknown(CHECK, "meld twice", Scene.HEAP, "-1", (x, number) -> x.meld(number, number));
        Scene.lastThing(CHECK, "meld", HeapEdgeTest::three, (x, t) -> x.meld(t[0], t[0]));
        promise26TheHundredthItem();
        promise26FullComesBeforeMoreThanHundred();
        promise26WithoutItems();
        promise26AllItemsOfTwo();
    }

    /** "-2": there would be more than 100. */
    private static void promise26TheHundredthItem() {
        scene(two(60, 100)).takes("meld of 60 and 40", (x, t) -> x.meld(t[0], t[1]), Things.range(0, 100));
        scene(two(60, 100)).takes("meld of 40 and 60", (x, t) -> x.meld(t[1], t[0]), Things.range(0, 100));
        scene(two(60, 101)).answers("meld of 60 and 41", -2, (x, t) -> x.meld(t[0], t[1]));
        scene(two(60, 101)).answers("meld of 41 and 60", -2, (x, t) -> x.meld(t[1], t[0]));
        scene(two(99, 100)).takes("meld of 99 and 1", (x, t) -> x.meld(t[0], t[1]), Things.range(0, 100));
        scene(two(100, 100)).takes("meld of 100 and none", (x, t) -> x.meld(t[0], t[1]), Things.range(0, 100));
        scene(two(100, 100)).takes("meld of none and 100", (x, t) -> x.meld(t[1], t[0]), Things.range(0, 100));
        scene(two(100, 101)).answers("meld of 100 and 1", -2, (x, t) -> x.meld(t[0], t[1]));
        scene(two(100, 101)).answers("meld of 1 and 100", -2, (x, t) -> x.meld(t[1], t[0]));
        scene(HeapEdgeTest::hundred).answers("meld of 100 and itself", -2, (x, t) -> x.meld(t[0], t[0]));
    }

    /** "-4; -2": the first that fits comes. */
    private static void promise26FullComesBeforeMoreThanHundred() {
        full(HeapEdgeTest::hundred).answers("meld of 200, full", -4, (x, t) -> x.meld(t[0], t[0]));
    }

    private static void promise26WithoutItems() {
        Scene some = scene(x -> Things.numbers(three(x)[0], x.heap()));
        some.takes("meld with none", (x, t) -> x.meld(t[0], t[1]), 1, 3, 3);
        some.takes("meld of none", (x, t) -> x.meld(t[1], t[0]), 1, 3, 3);
        some.takes("meld of none with none", (x, t) -> x.meld(t[1], t[1]));
    }

    /** "all ITEMS of two": an item of both is there as often as in both together. */
    private static void promise26AllItemsOfTwo() {
        Scene some = scene(x -> Things.numbers(three(x)[0], Things.heapOf(x, MOST, 3, LEAST, 0)));
        some.takes("meld", (x, t) -> x.meld(t[0], t[1]), LEAST, 0, 1, 3, 3, 3, MOST);
        some.takes("meld, turned", (x, t) -> x.meld(t[1], t[0]), LEAST, 0, 1, 3, 3, 3, MOST);
        some.takes("meld with itself", (x, t) -> x.meld(t[0], t[0]), 1, 1, 3, 3, 3, 3);
    }

    // ---- promise 27: pop

    private static void popTests() {
        Scene.unknown(CHECK, "pop", Scene.HEAP, "-1", (x, number) -> x.pop(number));
        Scene.lastThing(CHECK, "pop", HeapEdgeTest::three, (x, t) -> x.pop(t[0]));
        promise27ItHasNone();
        promise27FullComesBeforeHavingNone();
        promise27Once();
        promise27Hundred();
    }

    /** "-3 it has none": a heap with one item is the last that is taken. */
    private static void promise27ItHasNone() {
        scene(HeapEdgeTest::empty).answers("pop of none", -3, (x, t) -> x.pop(t[0]));
        Scene single = scene(x -> Things.numbers(Things.heapOf(x, 4)));
        single.takes("pop of one", (x, t) -> x.pop(t[0]));
        scene(x -> Things.numbers(x.pop(Things.heapOf(x, 4))))
            .answers("pop of what was popped", -3, (x, t) -> x.pop(t[0]));
    }

    /** "-4; -3 it has none": the first that fits comes. */
    private static void promise27FullComesBeforeHavingNone() {
        full(HeapEdgeTest::empty).answers("pop of none, full", -4, (x, t) -> x.pop(t[0]));
    }

    /** "without its least ITEM (once)". */
    private static void promise27Once() {
        scene(HeapEdgeTest::three).takes("pop of the least", (x, t) -> x.pop(t[0]), 3, 3);
        scene(x -> Things.numbers(Things.heapOf(x, 3, 1, 1)))
            .takes("pop of one of two alike", (x, t) -> x.pop(t[0]), 1, 3);
        scene(x -> Things.numbers(Things.heapOf(x, 0, MOST, LEAST, LEAST)))
            .takes("pop of the least long", (x, t) -> x.pop(t[0]), LEAST, 0, MOST);
    }

    private static void promise27Hundred() {
        scene(HeapEdgeTest::hundred).takes("pop of 100", (x, t) -> x.pop(t[0]), Things.range(1, 100));
    }

    // ---- promise 28: least

    private static void leastTests() {
        Scene.unknown(CHECK, "least", Scene.HEAP, NO_HEAP, (x, number) -> x.least(number));
        promise28WithoutItems();
        promise28TheLeastAsALong();
        promise28Full();
    }

    /** "NoSuchElementException": a heap with one item is the last that is taken. */
    private static void promise28WithoutItems() {
        scene(HeapEdgeTest::empty).answers("least of none", NO_ITEM, (x, t) -> x.least(t[0]));
        scene(x -> Things.numbers(Things.heapOf(x, -4))).answers("least of one", -4, (x, t) -> x.least(t[0]));
        scene(x -> Things.numbers(x.pop(Things.heapOf(x, 4))))
            .answers("least of what was popped", NO_ITEM, (x, t) -> x.least(t[0]));
        full(HeapEdgeTest::empty).answers("least of none, full", NO_ITEM, (x, t) -> x.least(t[0]));
    }

    private static void promise28TheLeastAsALong() {
        Scene ends = scene(x -> Things.numbers(Things.heapOf(x, 0, MOST, -1, LEAST), Things.heapOf(x, MOST, MOST)));
        ends.answers("least of the ends", LEAST, (x, t) -> x.least(t[0]));
        ends.answers("least of the most", MOST, (x, t) -> x.least(t[1]));
    }

    private static void promise28Full() {
        scene(HeapEdgeTest::hundred).answers("least of 100", 0, (x, t) -> x.least(t[0]));
        full(HeapEdgeTest::three).answers("least with 300 things", 1, (x, t) -> x.least(t[0]));
    }
}
