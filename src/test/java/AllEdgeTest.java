/** Promises 1, 2 and 29 to 33: each sentence that names a boundary case, by a test of its own. */
public final class AllEdgeTest {
    private static final long LEAST = Long.MIN_VALUE;
    private static final long MOST = Long.MAX_VALUE;
    private static final Check CHECK = new Check("AllEdgeTest");

    public static void main(String[] args) {
        promise1NoThings();
        promise1NothingWasWorked();
        clearTests();
        sizeTests();
        sameTests();
        soundTests();
        workedTests();
        toldTests();
        CHECK.end();
    }

    // ---- scenes

    private static Scene scene(Scene.Start start) {
        return new Scene(CHECK, start);
    }

    /** 0: a lazy map by bits, 1: a row, 2: a heap, all without members. */
    private static int[] empties(OrderedMaps x) {
        return Things.numbers(x.map(true, false), x.row(), x.heap());
    }

    private static int[] hundredKeys(OrderedMaps x) {
        return Things.numbers(Things.mapOfRange(x, true, 0, 100));
    }

    private static int[] hundredItems(OrderedMaps x) {
        return Things.numbers(Things.rowOf(x, Things.range(0, 100)), Things.heapOf(x, Things.range(0, 100)));
    }

    private static void dueTold(OrderedMaps x, String when, int things, int maps, int rows, int heaps) {
        CHECK.due("things " + when, x.told(0), things);
        CHECK.due("maps " + when, x.told(1), maps);
        CHECK.due("rows " + when, x.told(2), rows);
        CHECK.due("heaps " + when, x.told(3), heaps);
    }

    // ---- promise 1: a new object

    /** "No THINGS". */
    private static void promise1NoThings() {
        OrderedMaps x = new OrderedMaps();
        dueTold(x, "of a new object", 0, 0, 0, 0);
        CHECK.due("size 0 of a new object", x.size(0), -1);
        CHECK.due("sound 0 of a new object", x.sound(0), false);
        CHECK.due("same 0, 0 of a new object", x.same(0, 0), -1);
        OrderedMaps other = new OrderedMaps();
        other.row();
        dueTold(x, "of an object beside another one", 0, 0, 0, 0);
        CHECK.due("the first number beside another object", x.map(false, false), 0);
        dueTold(other, "of the other one", 1, 0, 1, 0);
    }

    /** "nothing was WORKED". */
    private static void promise1NothingWasWorked() {
        OrderedMaps x = new OrderedMaps();
        x.put(x.map(false, true), 1, 1, 1);
        OrderedMaps later = new OrderedMaps();
        CHECK.due("worked of a later object", later.worked(), 0);
        CHECK.due("worked of the earlier one", x.worked(), 1);
    }

    // ---- promise 2: clear

    private static void clearTests() {
        promise2AllThingsGo();
        promise2NumbersFrom0Again();
        promise2RoomFor300Again();
        promise2OfANewObject();
        promise2WorkedStays();
        promise2WhatWasWorkedIsGone();
    }

    /** "All THINGS go". */
    private static void promise2AllThingsGo() {
        OrderedMaps x = new OrderedMaps();
        Scene.oneOfEach(x);
        x.clear();
        dueTold(x, "after clear", 0, 0, 0, 0);
        for (int thing = 0; thing <= Scene.KNOWN_HEAP; thing++) {
            CHECK.due("size of " + thing + " after clear", x.size(thing), -1);
            CHECK.due("sound of " + thing + " after clear", x.sound(thing), false);
        }
        x.row();
        CHECK.due("an old number after a new thing", x.size(1), -1);
    }

    /** "THINGS have numbers from 0 as they are made": a number is of the new thing, not of the one that has gone. */
    private static void promise2NumbersFrom0Again() {
        OrderedMaps x = new OrderedMaps();
        Scene.oneOfEach(x);
        x.clear();
        CHECK.due("the first number after clear", x.heap(), 0);
        CHECK.due("the second number after clear", x.push(0, 4), 1);
        CHECK.due("what was a map", x.put(0, 1, 1, 1), -1);
        CHECK.due("what is a heap", x.least(1), 4);
        CHECK.due("what was of another size", x.size(0), 0);
        x.clear();
        CHECK.due("the first number after another clear", x.row(), 0);
    }

    /** "300 at most": those that have gone do not count. */
    private static void promise2RoomFor300Again() {
        OrderedMaps x = new OrderedMaps();
        Things.fillTo(x, 200);
        x.clear();
        Things.fillTo(x, Things.MOST - 1);
        CHECK.due("the 300th thing after clear", x.heap(), 299);
        CHECK.due("the 301st thing after clear", x.heap(), -4);
        OrderedMaps full = new OrderedMaps();
        Things.fillTo(full, Things.MOST);
        full.clear();
        CHECK.due("the first thing after 300 were cleared", full.heap(), 0);
        CHECK.due("the last of the old ones", full.size(299), -1);
    }

    private static void promise2OfANewObject() {
        OrderedMaps x = new OrderedMaps();
        x.clear();
        x.clear();
        dueTold(x, "after clear of no things", 0, 0, 0, 0);
        CHECK.due("worked after clear of no things", x.worked(), 0);
        CHECK.due("the first number after clear of no things", x.row(), 0);
    }

    /** "how often something was WORKED stays": those that failed count, too. */
    private static void promise2WorkedStays() {
        OrderedMaps x = new OrderedMaps();
        int strict = x.put(x.map(false, true), 1, 1, 1);
        CHECK.fails("put that fails before clear", ArithmeticException.class, () -> x.put(strict, 2, 1, 0));
        x.clear();
        CHECK.due("worked after clear", x.worked(), 2);
        x.clear();
        CHECK.due("worked after another clear", x.worked(), 2);
        x.put(x.map(false, true), 1, 1, 1);
        CHECK.due("worked goes on from there", x.worked(), 3);
    }

    /** The values have gone with their maps: one with the same key, n and d is another one. */
    private static void promise2WhatWasWorkedIsGone() {
        OrderedMaps x = new OrderedMaps();
        CHECK.due("get before clear", x.get(x.put(x.map(false, false), 1, 8, 2), 1), 4);
        x.clear();
        int map = x.put(x.map(false, false), 1, 8, 2);
        CHECK.due("worked by a put after clear", x.worked(), 1);
        CHECK.due("get after clear", x.get(map, 1), 4);
        CHECK.due("worked by the get after clear", x.worked(), 2);
    }

    // ---- promise 29: size

    private static void sizeTests() {
        Scene.unknown(CHECK, "size", Scene.ANY, "-1", (x, number) -> x.size(number));
        promise29EmptyAndFull();
        promise29OnceOrAsOften();
    }

    private static void promise29EmptyAndFull() {
        for (int sort = Scene.MAP; sort <= Scene.HEAP; sort++) {
            int asked = sort;
            scene(AllEdgeTest::empties).answers("size of none, sort " + sort, 0, (x, t) -> x.size(t[asked]));
        }
        scene(AllEdgeTest::hundredKeys).answers("size of 100 keys", 100, (x, t) -> x.size(t[0]));
        scene(AllEdgeTest::hundredItems).answers("size of 100 items of a row", 100, (x, t) -> x.size(t[0]));
        scene(AllEdgeTest::hundredItems).answers("size of 100 items of a heap", 100, (x, t) -> x.size(t[1]));
    }

    /** A key is there once, an item as often as it was added or pushed. */
    private static void promise29OnceOrAsOften() {
        scene(x -> Things.numbers(Things.mapOf(x, true, false, -1, -1, -1)))
            .answers("size of a key put thrice", 1, (x, t) -> x.size(t[0]));
        scene(x -> Things.numbers(Things.rowOf(x, 4, 4, 4)))
            .answers("size of an item added thrice", 3, (x, t) -> x.size(t[0]));
        scene(x -> Things.numbers(Things.heapOf(x, 4, 4, 4)))
            .answers("size of an item pushed thrice", 3, (x, t) -> x.size(t[0]));
    }

    // ---- promise 30: same

    private static void sameTests() {
        Scene.unknown(CHECK, "same first", Scene.ANY, "-1", (x, number) -> x.same(number, Scene.KNOWN_ROW));
        Scene.unknown(CHECK, "same second", Scene.ANY, "-1", (x, number) -> x.same(Scene.KNOWN_ROW, number));
        Scene.unknown(CHECK, "same twice", Scene.ANY, "-1", (x, number) -> x.same(number, number));
        promise30TwoSorts();
        promise30MapsOfTwoOrders();
        promise30WhateverValues();
        promise30MapsWithOtherKeys();
        promise30Rows();
        promise30Heaps();
        promise30Full();
    }

    /** Asks it both ways round: what a is to b, b is to a. */
    private static void dueSame(String what, int want, Scene.Start two) {
        scene(two).answers("same of " + what, want, (x, t) -> x.same(t[0], t[1]));
        scene(two).answers("same of " + what + ", turned", want, (x, t) -> x.same(t[1], t[0]));
        scene(two).answers("same of " + what + ", the first itself", 1, (x, t) -> x.same(t[0], t[0]));
    }

    /** "0 (also of two sorts)": without members, and with the same ones. */
    private static void promise30TwoSorts() {
        for (int first = Scene.MAP; first <= Scene.HEAP; first++) {
            int a = first;
            int b = (first + 1) % 3;
            dueSame("the sorts " + a + " and " + b + ", no members", 0, x -> {
                int[] things = empties(x);
                return Things.numbers(things[a], things[b]);
            });
            dueSame("the sorts " + a + " and " + b + ", same members", 0, x -> {
                int[] things = Scene.oneOfEach(x);
                return Things.numbers(things[a], things[b]);
            });
        }
    }

    /** "MAPS of one ORDER": not of two, even if no key would show it. */
    private static void promise30MapsOfTwoOrders() {
        dueSame("two orders, no keys", 0, x -> Things.numbers(x.map(false, false), x.map(true, false)));
        dueSame("two orders, one key", 0,
            x -> Things.numbers(Things.mapOf(x, false, false, 1), Things.mapOf(x, true, false, 1)));
        dueSame("two orders, keys from 0 on", 0,
            x -> Things.numbers(Things.mapOf(x, false, true, 0, 1), Things.mapOf(x, true, true, 0, 1)));
        dueSame("two orders, keys of both signs", 0,
            x -> Things.numbers(Things.mapOf(x, false, true, -1, 1), Things.mapOf(x, true, true, -1, 1)));
    }

    /** "with the same KEYS (whatever VALUES, STRICT or not)": nothing is needed. */
    private static void promise30WhateverValues() {
        dueSame("other values", 1, x -> Things.numbers(
            x.put(x.map(true, false), -1, 1, 1), x.put(x.map(true, false), -1, 2, 1)));
        dueSame("values that fail", 1, x -> Things.numbers(
            x.put(x.map(false, false), 7, 1, 0), x.put(x.map(false, false), 7, 2, 1)));
        dueSame("strict and lazy", 1,
            x -> Things.numbers(Things.mapOf(x, true, true, -1, 1), Things.mapOf(x, true, false, 1, -1)));
        dueSame("strict and lazy, no keys", 1, x -> Things.numbers(x.map(false, true), x.map(false, false)));
        dueSame("keys put in other turns", 1, x -> Things.numbers(
            Things.mapOf(x, true, false, LEAST, MOST, 0), Things.mapOf(x, true, false, MOST, 0, LEAST)));
    }

    private static void promise30MapsWithOtherKeys() {
        dueSame("a key more", 0,
            x -> Things.numbers(Things.mapOf(x, false, false, 1, 2), Things.mapOf(x, false, false, 1)));
        dueSame("a key and none", 0, x -> Things.numbers(Things.mapOf(x, false, false, 0), x.map(false, false)));
        dueSame("another first key", 0,
            x -> Things.numbers(Things.mapOf(x, false, false, 1, 3), Things.mapOf(x, false, false, 2, 3)));
        dueSame("another last key", 0,
            x -> Things.numbers(Things.mapOf(x, true, false, 1, LEAST), Things.mapOf(x, true, false, 1, MOST)));
    }

    /** "ROWS with the same ITEMS in the same places". */
    private static void promise30Rows() {
        dueSame("rows without items", 1, x -> Things.numbers(x.row(), x.row()));
        dueSame("rows", 1,
            x -> Things.numbers(Things.rowOf(x, LEAST, 4, MOST), x.turned(Things.rowOf(x, MOST, 4, LEAST))));
        dueSame("rows with other places", 0, x -> Things.numbers(Things.rowOf(x, 4, 5), Things.rowOf(x, 5, 4)));
        dueSame("a row with an item more", 0, x -> Things.numbers(Things.rowOf(x, 4, 4), Things.rowOf(x, 4)));
        dueSame("a row with an item and none", 0, x -> Things.numbers(Things.rowOf(x, 0), x.row()));
        dueSame("another first item", 0, x -> Things.numbers(Things.rowOf(x, 3, 5), Things.rowOf(x, 4, 5)));
        dueSame("another last item", 0, x -> Things.numbers(Things.rowOf(x, 4, LEAST), Things.rowOf(x, 4, MOST)));
    }

    /** "HEAPS with the same ITEMS as often". */
    private static void promise30Heaps() {
        dueSame("heaps without items", 1, x -> Things.numbers(x.heap(), x.pop(Things.heapOf(x, 7))));
        dueSame("heaps pushed in other turns", 1,
            x -> Things.numbers(Things.heapOf(x, 4, MOST, LEAST, 4), Things.heapOf(x, LEAST, 4, 4, MOST)));
        dueSame("a heap with an item oftener", 0, x -> Things.numbers(Things.heapOf(x, 4, 4), Things.heapOf(x, 4)));
        dueSame("a heap with another one oftener", 0,
            x -> Things.numbers(Things.heapOf(x, 4, 4, 5), Things.heapOf(x, 4, 5, 5)));
        dueSame("another least item", 0, x -> Things.numbers(Things.heapOf(x, 3, 5), Things.heapOf(x, 4, 5)));
        dueSame("another largest item", 0, x -> Things.numbers(Things.heapOf(x, 4, 5), Things.heapOf(x, 4, 6)));
        dueSame("a heap popped and pushed", 1, x -> {
            int heap = Things.heapOf(x, 4, 2, 9);
            return Things.numbers(heap, x.push(x.pop(heap), 2));
        });
    }

    private static void promise30Full() {
        dueSame("100 keys", 1, x -> Things.numbers(hundredKeys(x)[0], Things.mapOfRange(x, false, 0, 100)));
        dueSame("100 keys, another last one", 0, x -> {
            int map = hundredKeys(x)[0];
            return Things.numbers(map, x.put(x.drop(map, 99), 100, 1, 1));
        });
        dueSame("100 items, another last one", 0, x -> {
            int row = hundredItems(x)[0];
            return Things.numbers(row, x.replace(row, 99, 100));
        });
        dueSame("100 items, another least one", 0, x -> {
            int heap = hundredItems(x)[1];
            return Things.numbers(heap, x.push(x.pop(heap), 1));
        });
    }

    // ---- promise 31: sound

    private static void soundTests() {
        Scene.unknown(CHECK, "sound", Scene.ANY, "0", (x, number) -> x.sound(number) ? 1 : 0);
        promise31SoItMustBe();
        promise31AfterARefusedCall();
    }

    private static void dueAllSound(String when, OrderedMaps x) {
        int things = x.told(0);
        for (int thing = 0; thing < things; thing++) {
            CHECK.due("sound of " + thing + " " + when, x.sound(thing), true);
        }
    }

    /** "so it must be": of each thing, empty or full, lazy or strict, with values that would fail. */
    private static void promise31SoItMustBe() {
        OrderedMaps x = new OrderedMaps();
        empties(x);
        Things.mapOf(x, false, true, LEAST, MOST, 0, -1);
        Things.mapOf(x, true, true, LEAST, MOST, 0, -1);
        Things.heapOf(x, MOST, LEAST, 0, -1, LEAST);
        Things.rowOf(x, MOST, LEAST, 0, -1, LEAST);
        x.put(0, 1, 1, 0);
        dueAllSound("of a few", x);
        OrderedMaps keys = new OrderedMaps();
        hundredKeys(keys);
        dueAllSound("of up to 100 keys", keys);
        OrderedMaps items = new OrderedMaps();
        hundredItems(items);
        dueAllSound("of up to 100 items", items);
    }

    private static void promise31AfterARefusedCall() {
        OrderedMaps x = new OrderedMaps();
        int strict = Things.mapOf(x, false, true, 1, 2);
        int lazy = x.put(Things.mapOf(x, false, false, 1), 2, 1, 0);
        CHECK.fails("put that fails", ArithmeticException.class, () -> x.put(strict, 3, 1, 0));
        CHECK.fails("get that fails", ArithmeticException.class, () -> x.get(lazy, 2));
        CHECK.fails("fold that fails", ArithmeticException.class, () -> x.fold(lazy, 1, 2));
        dueAllSound("after calls that failed", x);
    }

    // ---- promise 32: worked

    private static void workedTests() {
        promise32ThoseThatFailedCountToo();
        promise32ARefusedCallWorksNothing();
        promise32LeastByMinus1IsWorkedOnce();
    }

    /** "(those that FAILED count, too)". */
    private static void promise32ThoseThatFailedCountToo() {
        OrderedMaps x = new OrderedMaps();
        int strict = x.map(false, true);
        int lazy = x.put(x.map(false, false), 1, 1, 0);
        CHECK.due("worked by a lazy put", x.worked(), 0);
        for (int times = 1; times <= 3; times++) {
            CHECK.fails("strict put", ArithmeticException.class, () -> x.put(strict, 1, 1, 0));
            CHECK.due("worked by the strict put " + times, x.worked(), 3 * times - 2);
            CHECK.fails("get", ArithmeticException.class, () -> x.get(lazy, 1));
            CHECK.due("worked by the get " + times, x.worked(), 3 * times - 1);
            CHECK.fails("fold", ArithmeticException.class, () -> x.fold(lazy, 1, 1));
            CHECK.due("worked by the fold " + times, x.worked(), 3 * times);
        }
    }

    private static void promise32ARefusedCallWorksNothing() {
        OrderedMaps x = new OrderedMaps();
        int strict = Things.mapOfRange(x, true, 0, 100);
        int before = x.worked();
        CHECK.due("worked by 100 strict puts", before, 100);
        CHECK.due("put of the 101st key", x.put(strict, 100, 1, 1), -2);
        CHECK.due("put of no map", x.put(strict + 1, 0, 1, 1), -1);
        Things.fillTo(x, Things.MOST);
        CHECK.due("put with 300 things", x.put(strict, 0, 1, 1), -4);
        CHECK.due("worked by refused puts", x.worked(), before);
        CHECK.due("get of a strict value", x.get(strict, 7), 7);
        CHECK.due("fold of strict values", x.fold(strict, 0, 99), 4950);
        CHECK.due("worked by needs of strict values", x.worked(), before);
    }

    private static void promise32LeastByMinus1IsWorkedOnce() {
        OrderedMaps x = new OrderedMaps();
        int lazy = x.put(x.map(false, false), 1, LEAST, -1);
        CHECK.due("the least by -1", x.get(lazy, 1), LEAST);
        CHECK.due("the least by -1 again", x.fold(lazy, 1, 1), LEAST);
        CHECK.due("it does not fail, so it is kept", x.worked(), 1);
    }

    // ---- promise 33: told

    private static void toldTests() {
        promise33What();
        promise33EachSort();
        promise33Full();
    }

    /** "-2": 0 and 3 are the last that are taken. */
    private static void promise33What() {
        Scene some = scene(Scene::oneOfEach);
        some.answers("told 0", 9, (x, t) -> x.told(0));
        some.answers("told 3", 3, (x, t) -> x.told(3));
        for (int what : new int[] {-1, 4, -2, 5, 256, Integer.MIN_VALUE, Integer.MAX_VALUE}) {
            some.answers("told " + what, -2, (x, t) -> x.told(what));
            scene(x -> Things.numbers()).answers("told " + what + " of no things", -2, (x, t) -> x.told(what));
        }
    }

    /** "0 THINGS, 1 MAPS, 2 ROWS, 3 HEAPS". */
    private static void promise33EachSort() {
        OrderedMaps x = new OrderedMaps();
        x.map(false, false);
        dueTold(x, "with a map", 1, 1, 0, 0);
        x.row();
        dueTold(x, "with a row besides", 2, 1, 1, 0);
        x.heap();
        dueTold(x, "with a heap besides", 3, 1, 1, 1);
        x.put(0, 1, 1, 1);
        x.add(1, true, 1);
        x.push(2, 1);
        dueTold(x, "with new ones of old ones", 6, 2, 2, 2);
        x.pop(2);
        x.drop(0, 1);
        dueTold(x, "after refused calls", 6, 2, 2, 2);
    }

    private static void promise33Full() {
        OrderedMaps x = new OrderedMaps();
        Scene.oneOfEach(x);
        Things.fillTo(x, Things.MOST);
        dueTold(x, "with 300 things", 300, 3, 294, 3);
        x.heap();
        dueTold(x, "after the 301st", 300, 3, 294, 3);
    }
}
