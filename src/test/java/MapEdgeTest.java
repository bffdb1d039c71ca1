/** Promises 3 to 10, the calls that make maps: each sentence that names a boundary case, by a test of its own. */
public final class MapEdgeTest {
    private static final long LEAST = Long.MIN_VALUE;
    private static final long MOST = Long.MAX_VALUE;
    private static final String FAILS = "throws.ArithmeticException";
    private static final Check CHECK = new Check("MapEdgeTest");

    public static void main(String[] args) {
        promise3FirstAndLastThing();
        putTests();
        dropTests();
        unionTests();
        bothTests();
        lessTests();
        partTests();
        keptTests();
        CHECK.end();
    }

    private static Scene scene(Scene.Start start) {
        return new Scene(CHECK, start);
    }

    private static Scene full(Scene.Start start) {
        return new Scene(CHECK, Scene.filled(start, Things.MOST));
    }

    private static Scene two(int firstEnd, int from, int to) {
        return scene(MapStarts.two(firstEnd, from, to));
    }

    // ---- promise 3: map

    /** "A MAP without KEYS: its number. -4." */
    private static void promise3FirstAndLastThing() {
        for (int kind = 0; kind < 4; kind++) {
            boolean bits = kind / 2 == 1;
            boolean strict = kind % 2 == 1;
            String call = "map(" + bits + ", " + strict + ")";
            scene(MapStarts::nothing).takes(call + " of a new object", (x, t) -> x.map(bits, strict));
            Scene.lastThing(CHECK, call, MapStarts::nothing, (x, t) -> x.map(bits, strict));
        }
    }

    // ---- promise 4: put

    private static void putTests() {
        Scene.unknown(CHECK, "put", Scene.MAP, "-1", (x, number) -> x.put(number, 1, 1, 0));
        Scene.lastThing(CHECK, "put", MapStarts::lazy, (x, t) -> x.put(t[0], 2, 1, 1));
        Scene.lastThing(CHECK, "put in place of one", MapStarts::lazy, (x, t) -> x.put(t[0], 3, 1, 1));
        promise4TheHundredthKey();
        promise4InPlaceOfTheOneThatItHad();
        promise4FullComesBeforeMoreThanHundred();
        promise4MoreThanHundredComesBeforeFailing();
        promise4StrictAndFails();
        promise4LazyDoesNotFail();
        promise4KeysAtTheEnds();
    }

    /** "-2": there would be more than 100. */
    private static void promise4TheHundredthKey() {
        Scene before = scene(x -> Things.numbers(Things.mapOfRange(x, true, 0, 99)));
        before.takes("put of the 100th key", (x, t) -> x.put(t[0], 99, 1, 1), Things.range(0, 100));
        before.takes("put of the 100th key, ahead", (x, t) -> x.put(t[0], -1, 1, 1), Things.range(-1, 99));
        Scene hundred = scene(MapStarts::hundred);
        hundred.answers("put of the 101st key", -2, (x, t) -> x.put(t[0], 100, 1, 1));
        hundred.answers("put of the 101st key, ahead", -2, (x, t) -> x.put(t[0], -1, 1, 1));
        scene(x -> Things.numbers(x.drop(MapStarts.hundred(x)[0], 50)))
            .takes("put after a drop", (x, t) -> x.put(t[0], 50, 1, 1), Things.range(0, 100));
    }

    /** "(in place of the one that it had)": so there are not more than 100. */
    private static void promise4InPlaceOfTheOneThatItHad() {
        Scene hundred = scene(MapStarts::hundred);
        for (long key : new long[] {0, 50, 99}) {
            hundred.takes("put of key " + key + " of 100", (x, t) -> x.put(t[0], key, 7, 1), Things.range(0, 100));
        }
        OrderedMaps x = new OrderedMaps();
        int old = MapStarts.hundred(x)[0];
        int made = x.put(old, 50, 700, 7);
        CHECK.due("the value in place of the old one", x.get(made, 50), 100);
        CHECK.due("the value before it", x.get(made, 49), 49);
        CHECK.due("the value behind it", x.get(made, 51), 51);
        CHECK.due("the value in the old map", x.get(old, 50), 50);
    }

    /** "-1; -4; -2": the first that fits comes. */
    private static void promise4FullComesBeforeMoreThanHundred() {
        full(MapStarts::hundred).answers("put of the 101st key, full", -4, (x, t) -> x.put(t[0], 100, 1, 1));
        full(MapStarts::strict).answers("put that fails, full", -4, (x, t) -> x.put(t[0], 2, 1, 0));
        full(MapStarts::hundred).answers("put of both, full", -4, (x, t) -> x.put(t[0], 100, 1, 0));
    }

    /** "-2; ArithmeticException": the first that fits comes, and nothing is worked. */
    private static void promise4MoreThanHundredComesBeforeFailing() {
        scene(MapStarts::hundred).answers("put of the 101st that fails", -2, (x, t) -> x.put(t[0], 100, 1, 0));
    }

    /** "ArithmeticException: it is STRICT, and the VALUE FAILS." */
    private static void promise4StrictAndFails() {
        Scene strict = scene(MapStarts::strict);
        strict.answersWorking("put that fails", FAILS, 1, (x, t) -> x.put(t[0], 2, 1, 0));
        strict.answersWorking("put of 0 / 0", FAILS, 1, (x, t) -> x.put(t[0], 2, 0, 0));
        strict.answersWorking("put of the least by 0", FAILS, 1, (x, t) -> x.put(t[0], 2, LEAST, 0));
        strict.answersWorking("put that fails, in place of one", FAILS, 1, (x, t) -> x.put(t[0], 3, 1, 0));
        scene(x -> Things.numbers(x.map(true, true)))
            .answersWorking("put that fails, no keys, bits", FAILS, 1, (x, t) -> x.put(t[0], 2, 1, 0));
        scene(MapStarts::hundred)
            .answersWorking("put that fails in place of one of 100", FAILS, 1, (x, t) -> x.put(t[0], 99, 1, 0));
        scene(Scene.filled(MapStarts::strict, Things.MOST - 1))
            .answersWorking("put that fails, with 299 things", FAILS, 1, (x, t) -> x.put(t[0], 2, 1, 0));
        strict.takes("put of 0 / 1", (x, t) -> x.put(t[0], 2, 0, 1), 1, 2, 3, 5);
        strict.takes("put of the least by -1", (x, t) -> x.put(t[0], 2, LEAST, -1), 1, 2, 3, 5);
    }

    /** "it is STRICT": in a lazy map the value fails only when it is needed. */
    private static void promise4LazyDoesNotFail() {
        Scene lazy = scene(MapStarts::lazy);
        lazy.takes("lazy put of n by 0", (x, t) -> x.put(t[0], 2, 1, 0), 1, 2, 3, 5);
        lazy.takes("lazy put of n by 0, in place of one", (x, t) -> x.put(t[0], 3, 1, 0), 1, 3, 5);
        OrderedMaps x = new OrderedMaps();
        x.put(MapStarts.lazy(x)[0], 2, 1, 0);
        CHECK.due("worked by lazy puts", x.worked(), 0);
    }

    private static void promise4KeysAtTheEnds() {
        Scene ends = scene(MapStarts::ends);
        ends.takes("put of the least, signed", (x, t) -> x.put(t[0], LEAST, 1, 1), LEAST, -1, 0, MOST);
        ends.takes("put of the most, signed", (x, t) -> x.put(t[0], MOST, 1, 1), LEAST, -1, 0, MOST);
        ends.takes("put of the least, bits", (x, t) -> x.put(t[1], LEAST, 1, 1), 0, MOST, LEAST, -1);
        ends.takes("put of -1, bits", (x, t) -> x.put(t[1], -1, 1, 1), 0, MOST, LEAST, -1);
        ends.takes("put of 1, bits", (x, t) -> x.put(t[1], 1, 1, 1), 0, 1, MOST, LEAST, -1);
        ends.takes("put of -2, bits", (x, t) -> x.put(t[1], -2, 1, 1), 0, MOST, LEAST, -2, -1);
    }

    // ---- promise 5: drop

    private static void dropTests() {
        Scene.unknown(CHECK, "drop", Scene.MAP, "-1", (x, number) -> x.drop(number, 7));
        Scene.lastThing(CHECK, "drop", MapStarts::lazy, (x, t) -> x.drop(t[0], 3));
        promise5ItHasNotTheKey();
        promise5FullComesBeforeHavingNotTheKey();
        promise5TheLastKeyAndOneOfHundred();
    }

    /** "-3 it has not the KEY." */
    private static void promise5ItHasNotTheKey() {
        scene(MapStarts::empty).answers("drop of no keys", -3, (x, t) -> x.drop(t[0], 0));
        Scene lazy = scene(MapStarts::lazy);
        for (long key : new long[] {LEAST, -1, 0, 2, 4, 6, MOST}) {
            lazy.answers("drop of " + key, -3, (x, t) -> x.drop(t[0], key));
        }
        scene(x -> Things.numbers(x.drop(MapStarts.lazy(x)[0], 3)))
            .answers("drop of what was dropped", -3, (x, t) -> x.drop(t[0], 3));
        scene(MapStarts::hundred).answers("drop of what 100 have not", -3, (x, t) -> x.drop(t[0], 100));
    }

    /** "-1; -4; -3": the first that fits comes. */
    private static void promise5FullComesBeforeHavingNotTheKey() {
        full(MapStarts::lazy).answers("drop of what it has not, full", -4, (x, t) -> x.drop(t[0], 2));
    }

    private static void promise5TheLastKeyAndOneOfHundred() {
        scene(x -> Things.numbers(Things.mapOf(x, true, true, -1)))
            .takes("drop of the only key", (x, t) -> x.drop(t[0], -1));
        scene(MapStarts::lazy).takes("drop of the first", (x, t) -> x.drop(t[0], 1), 3, 5);
        scene(MapStarts::lazy).takes("drop of the last", (x, t) -> x.drop(t[0], 5), 1, 3);
        scene(MapStarts::hundred).takes("drop of 100", (x, t) -> x.drop(t[0], 99), Things.range(0, 99));
        scene(MapStarts::ends).takes("drop of the least, signed", (x, t) -> x.drop(t[0], LEAST), -1, 0, MOST);
        scene(MapStarts::ends).takes("drop of -1, bits", (x, t) -> x.drop(t[1], -1), 0, MOST, LEAST);
    }

    // ---- promises 6 to 8: union, both, less

    /** A call of two maps. */
    private interface OfTwo {
        int on(OrderedMaps x, int a, int b);
    }

    /** "-1; -3 they are not alike (ORDER, STRICT); -4": all three calls tell these. */
    private static void ofTwoTests(String call, OfTwo act) {
        Scene.unknown(CHECK, call + " first", Scene.MAP, "-1", (x, number) -> act.on(x, number, Scene.KNOWN_MAP));
        Scene.unknown(CHECK, call + " second", Scene.MAP, "-1", (x, number) -> act.on(x, Scene.KNOWN_MAP, number));
        Scene.unknown(CHECK, call + " twice", Scene.MAP, "-1", (x, number) -> act.on(x, number, number));
        Scene.lastThing(CHECK, call, MapStarts::lazy, (x, t) -> act.on(x, t[0], t[0]));
        notAlike(call, act);
    }

    /** Each two of the four kinds, with keys and without; "-3" comes before "-4". */
    private static void notAlike(String call, OfTwo act) {
        Scene kinds = scene(MapStarts::ofEachKind);
        Scene fullKinds = full(MapStarts::ofEachKind);
        Scene noKeys = scene(x ->
            Things.numbers(x.map(false, false), x.map(false, true), x.map(true, false), x.map(true, true)));
        for (int a = 0; a < 4; a++) {
            for (int b = 0; b < 4; b++) {
                int first = a;
                int second = b;
                String name = call + " of the kinds " + a + " and " + b;
                if (a == b) {
                    noKeys.takes(name + " without keys", (x, t) -> act.on(x, t[first], t[second]));
                } else {
                    kinds.answers(name, -3, (x, t) -> act.on(x, t[first], t[second]));
                    noKeys.answers(name + " without keys", -3, (x, t) -> act.on(x, t[first], t[second]));
                    fullKinds.answers(name + ", full", -3, (x, t) -> act.on(x, t[first], t[second]));
                }
            }
        }
    }

    private static void unionTests() {
        ofTwoTests("union", OrderedMaps::union);
        promise6TheHundredthKey();
        promise6NotAlikeComesBeforeMoreThanHundred();
        promise6FullComesBeforeMoreThanHundred();
        promise6WithoutKeys();
        promise6TheEndsOfTheOrders();
        ofBothTheValuesOfA("union", OrderedMaps::union, 1);
    }

    /** "-2": there would be more than 100; keys that both have are one. */
    private static void promise6TheHundredthKey() {
        two(60, 60, 100).takes("union of 60 and 40", (x, t) -> x.union(t[0], t[1]), Things.range(0, 100));
        two(60, 60, 101).answers("union of 60 and 41", -2, (x, t) -> x.union(t[0], t[1]));
        two(60, 60, 101).answers("union of 41 and 60", -2, (x, t) -> x.union(t[1], t[0]));
        two(60, 59, 100).takes("union, one of both", (x, t) -> x.union(t[1], t[0]), Things.range(0, 100));
        two(60, 59, 101).answers("union, one of both, of 101", -2, (x, t) -> x.union(t[0], t[1]));
        two(100, 0, 100).takes("union of 100, all of both", (x, t) -> x.union(t[0], t[1]), Things.range(0, 100));
        two(100, 99, 100).takes("union of 100 and one of it", (x, t) -> x.union(t[0], t[1]),
            Things.range(0, 100));
        two(100, 100, 101).answers("union of 100 and another", -2, (x, t) -> x.union(t[0], t[1]));
        two(100, 100, 101).answers("union of another and 100", -2, (x, t) -> x.union(t[1], t[0]));
        two(100, 100, 197).answers("union of 197", -2, (x, t) -> x.union(t[0], t[1]));
        two(100, 0, 0).takes("union of 100 and none", (x, t) -> x.union(t[0], t[1]), Things.range(0, 100));
        two(100, 0, 0).takes("union of none and 100", (x, t) -> x.union(t[1], t[0]), Things.range(0, 100));
    }

    /** "-3 they are not alike (ORDER, STRICT); -4; -2": the first that fits comes. */
    private static void promise6NotAlikeComesBeforeMoreThanHundred() {
        Scene.Start unlike = x ->
            Things.numbers(Things.mapOfRange(x, true, 0, 100), Things.mapOfRange(x, false, 100, 101));
        scene(unlike).answers("union of 101 that are not alike", -3, (x, t) -> x.union(t[0], t[1]));
        full(unlike).answers("union of 101 that are not alike, full", -3, (x, t) -> x.union(t[1], t[0]));
    }

    /** "-4; -2": the first that fits comes. */
    private static void promise6FullComesBeforeMoreThanHundred() {
        full(MapStarts.two(100, 100, 101)).answers("union of 101, full", -4, (x, t) -> x.union(t[0], t[1]));
    }

    private static void promise6WithoutKeys() {
        Scene some = scene(x -> Things.numbers(MapStarts.lazy(x)[0], x.map(false, false)));
        some.takes("union with none", (x, t) -> x.union(t[0], t[1]), 1, 3, 5);
        some.takes("union of none", (x, t) -> x.union(t[1], t[0]), 1, 3, 5);
        some.takes("union of none with none", (x, t) -> x.union(t[1], t[1]));
        some.takes("union with itself", (x, t) -> x.union(t[0], t[0]), 1, 3, 5);
    }

    /** Two maps of an order, so that each key of the ends lies in one of them. */
    private static Scene.Start endsOfTwo(boolean bits) {
        return x -> Things.numbers(Things.mapOf(x, bits, true, MOST, LEAST, 1), Things.mapOf(x, bits, true, -1, 0, 1));
    }

    private static void promise6TheEndsOfTheOrders() {
        for (int first = 0; first < 2; first++) {
            int a = first;
            scene(endsOfTwo(false)).takes("union, signed", (x, t) -> x.union(t[a], t[1 - a]), LEAST, -1, 0, 1, MOST);
            scene(endsOfTwo(true)).takes("union, bits", (x, t) -> x.union(t[a], t[1 - a]), 0, 1, MOST, LEAST, -1);
        }
    }

    /** "the VALUES of a where both have one": the key 3 has 3 in the one map and 30 in the other. */
    private static void ofBothTheValuesOfA(String call, OfTwo act, int ofOneAlone) {
        OrderedMaps x = new OrderedMaps();
        int a = Things.mapOf(x, true, false, 1, 3);
        int b = x.put(Things.mapOf(x, true, false, 5), 3, 60, 2);
        int made = act.on(x, a, b);
        int turned = act.on(x, b, a);
        CHECK.due("worked by " + call, x.worked(), 0);
        CHECK.due(call + ": the value of a", x.get(made, 3), 3);
        CHECK.due(call + ": only it was worked", x.worked(), 1);
        CHECK.due(call + ": it is the very value", x.get(a, 3), 3);
        CHECK.due(call + ": so it is not worked again", x.worked(), 1);
        CHECK.due(call + ", turned: the value of b", x.get(turned, 3), 30);
        CHECK.due(call + ", turned: worked, too", x.worked(), 2);
        CHECK.due(call + ": of a alone", x.has(made, 1) ? 1 : 0, ofOneAlone);
        CHECK.due(call + ": of b alone", x.has(made, 5) ? 1 : 0, ofOneAlone);
    }

    private static void bothTests() {
        ofTwoTests("both", OrderedMaps::both);
        ofBothTheValuesOfA("both", OrderedMaps::both, 0);
        promise7EmptyAndFull();
        promise7TheEndsOfTheOrders();
    }

    private static void promise7EmptyAndFull() {
        two(3, 0, 0).takes("both with none", (x, t) -> x.both(t[0], t[1]));
        two(3, 0, 0).takes("both of none", (x, t) -> x.both(t[1], t[0]));
        two(3, 3, 6).takes("both, none of both", (x, t) -> x.both(t[0], t[1]));
        two(3, 2, 6).takes("both, one of both", (x, t) -> x.both(t[0], t[1]), 2);
        two(100, 0, 100).takes("both of 100 and 100", (x, t) -> x.both(t[0], t[1]), Things.range(0, 100));
        two(100, 99, 190).takes("both of 100 and 91 others", (x, t) -> x.both(t[0], t[1]), 99);
        two(100, 100, 190).takes("both of 190 keys", (x, t) -> x.both(t[0], t[1]));
    }

    private static void promise7TheEndsOfTheOrders() {
        for (int order = 0; order < 2; order++) {
            boolean bits = order == 1;
            long[] due = bits ? new long[] {0, MOST, LEAST, -1} : new long[] {LEAST, -1, 0, MOST};
            Scene ends = scene(x -> Things.numbers(Things.mapOf(x, bits, true, MOST, LEAST, 0, -1, 1),
                Things.mapOf(x, bits, true, 0, -1, MOST, 2, LEAST)));
            ends.takes("both, order " + order, (x, t) -> x.both(t[0], t[1]), due);
            ends.takes("less, order " + order, (x, t) -> x.less(t[0], t[1]), 1);
            ends.takes("less turned, order " + order, (x, t) -> x.less(t[1], t[0]), 2);
        }
    }

    private static void lessTests() {
        ofTwoTests("less", OrderedMaps::less);
        promise8EmptyAndFull();
    }

    private static void promise8EmptyAndFull() {
        two(3, 0, 0).takes("less none", (x, t) -> x.less(t[0], t[1]), 0, 1, 2);
        two(3, 0, 0).takes("none less some", (x, t) -> x.less(t[1], t[0]));
        two(3, 3, 6).takes("less what it has not", (x, t) -> x.less(t[0], t[1]), 0, 1, 2);
        two(3, 2, 6).takes("less one of it", (x, t) -> x.less(t[0], t[1]), 0, 1);
        two(3, 0, 3).takes("less all of it", (x, t) -> x.less(t[0], t[1]));
        two(100, 100, 190).takes("100 less others", (x, t) -> x.less(t[0], t[1]), Things.range(0, 100));
        two(100, 0, 100).takes("100 less 100", (x, t) -> x.less(t[0], t[1]));
        two(100, 0, 99).takes("100 less 99", (x, t) -> x.less(t[0], t[1]), 99);
    }

    // ---- promise 9: part

    private static void partTests() {
        Scene.unknown(CHECK, "part", Scene.MAP, "-1", (x, number) -> x.part(number, 1, 2));
        Scene.lastThing(CHECK, "part before", MapStarts::lazy, (x, t) -> x.part(t[0], 3, 0));
        Scene.lastThing(CHECK, "part behind", MapStarts::lazy, (x, t) -> x.part(t[0], 3, 1));
        promise9Side();
        promise9SideComesBeforeFull();
        promise9BeforeAndBehindAKey();
        promise9TheEndsOfTheOrders();
        promise9EmptyAndFull();
    }

    /** "-2 side": 0 and 1 are the last that are taken. */
    private static void promise9Side() {
        Scene lazy = scene(MapStarts::lazy);
        lazy.takes("part by side 0", (x, t) -> x.part(t[0], 3, 0), 1);
        lazy.takes("part by side 1", (x, t) -> x.part(t[0], 3, 1), 5);
        for (int side : new int[] {-1, 2, 256, Integer.MIN_VALUE, Integer.MAX_VALUE}) {
            lazy.answers("part by side " + side, -2, (x, t) -> x.part(t[0], 3, side));
        }
    }

    /** "-2 side; -4": the first that fits comes. */
    private static void promise9SideComesBeforeFull() {
        full(MapStarts::lazy).answers("part by side 2, full", -2, (x, t) -> x.part(t[0], 3, 2));
        full(MapStarts::lazy).answers("part by side -1, full", -2, (x, t) -> x.part(t[0], 3, -1));
    }

    /** "before one, by the ORDER (side = 0), behind it (1)": the key itself is in neither. */
    private static void promise9BeforeAndBehindAKey() {
        Scene lazy = scene(MapStarts::lazy);
        lazy.takes("part before the first", (x, t) -> x.part(t[0], 1, 0));
        lazy.takes("part behind the first", (x, t) -> x.part(t[0], 1, 1), 3, 5);
        lazy.takes("part before the last", (x, t) -> x.part(t[0], 5, 0), 1, 3);
        lazy.takes("part behind the last", (x, t) -> x.part(t[0], 5, 1));
        lazy.takes("part before one that it has not", (x, t) -> x.part(t[0], 4, 0), 1, 3);
        lazy.takes("part behind one that it has not", (x, t) -> x.part(t[0], 4, 1), 5);
        lazy.takes("part before one ahead of all", (x, t) -> x.part(t[0], 0, 0));
        lazy.takes("part behind one ahead of all", (x, t) -> x.part(t[0], 0, 1), 1, 3, 5);
        lazy.takes("part before one behind all", (x, t) -> x.part(t[0], 6, 0), 1, 3, 5);
        lazy.takes("part behind one behind all", (x, t) -> x.part(t[0], 6, 1));
    }

    private static void promise9TheEndsOfTheOrders() {
        Scene ends = scene(MapStarts::ends);
        ends.takes("part before the least, signed", (x, t) -> x.part(t[0], LEAST, 0));
        ends.takes("part behind the least, signed", (x, t) -> x.part(t[0], LEAST, 1), -1, 0, MOST);
        ends.takes("part before the most, signed", (x, t) -> x.part(t[0], MOST, 0), LEAST, -1, 0);
        ends.takes("part behind the most, signed", (x, t) -> x.part(t[0], MOST, 1));
        ends.takes("part before 0, bits", (x, t) -> x.part(t[1], 0, 0));
        ends.takes("part behind 0, bits", (x, t) -> x.part(t[1], 0, 1), MOST, LEAST, -1);
        ends.takes("part before the least, bits", (x, t) -> x.part(t[1], LEAST, 0), 0, MOST);
        ends.takes("part behind the most, bits", (x, t) -> x.part(t[1], MOST, 1), LEAST, -1);
        ends.takes("part before -1, bits", (x, t) -> x.part(t[1], -1, 0), 0, MOST, LEAST);
        ends.takes("part behind -1, bits", (x, t) -> x.part(t[1], -1, 1));
    }

    private static void promise9EmptyAndFull() {
        scene(MapStarts::empty).takes("part of no keys, before", (x, t) -> x.part(t[0], 0, 0));
        scene(MapStarts::empty).takes("part of no keys, behind", (x, t) -> x.part(t[0], 0, 1));
        Scene hundred = scene(MapStarts::hundred);
        hundred.takes("part of 100, all before", (x, t) -> x.part(t[0], 100, 0), Things.range(0, 100));
        hundred.takes("part of 100, all behind", (x, t) -> x.part(t[0], -1, 1), Things.range(0, 100));
        hundred.takes("part of 100, all but the last", (x, t) -> x.part(t[0], 99, 0), Things.range(0, 99));
        hundred.takes("part of 100, all but the first", (x, t) -> x.part(t[0], 0, 1), Things.range(1, 100));
    }

    // ---- promise 10: kept

    private static void keptTests() {
        Scene.unknown(CHECK, "kept", Scene.MAP, "-1", (x, number) -> x.kept(number, 0, 0));
        Scene.lastThing(CHECK, "kept", MapStarts::lazy, (x, t) -> x.kept(t[0], 2, 1));
        promise10MBelow1();
        promise10MBelow1ComesBeforeFull();
        promise10RFrom0ToMLess1();
        promise10KeysBelow0();
        promise10TheEndsOfTheLongs();
        promise10EmptyAndFull();
    }

    /** "-2 m is below 1": 1 is the last that is taken. */
    private static void promise10MBelow1() {
        Scene lazy = scene(MapStarts::lazy);
        lazy.takes("kept by 1", (x, t) -> x.kept(t[0], 1, 0), 1, 3, 5);
        for (long m : new long[] {0, -1, -2, LEAST, LEAST + 1}) {
            lazy.answers("kept by " + m, -2, (x, t) -> x.kept(t[0], m, 0));
            lazy.answers("kept by " + m + ", r as m", -2, (x, t) -> x.kept(t[0], m, m));
        }
        scene(MapStarts::empty).answers("kept of no keys by 0", -2, (x, t) -> x.kept(t[0], 0, 0));
    }

    /** "-2 m is below 1; -4": the first that fits comes. */
    private static void promise10MBelow1ComesBeforeFull() {
        full(MapStarts::lazy).answers("kept by 0, full", -2, (x, t) -> x.kept(t[0], 0, 0));
        full(MapStarts::lazy).answers("kept by 1, full", -4, (x, t) -> x.kept(t[0], 1, 0));
    }

    /** "(r from 0 to m - 1 for each KEY)": no key leaves another r. */
    private static void promise10RFrom0ToMLess1() {
        Scene lazy = scene(MapStarts::lazy);
        lazy.takes("kept by 3, r 0", (x, t) -> x.kept(t[0], 3, 0), 3);
        lazy.takes("kept by 3, r 2", (x, t) -> x.kept(t[0], 3, 2), 5);
        lazy.takes("kept by 3, r 3", (x, t) -> x.kept(t[0], 3, 3));
        lazy.takes("kept by 3, r -1", (x, t) -> x.kept(t[0], 3, -1));
        lazy.takes("kept by 1, r 1", (x, t) -> x.kept(t[0], 1, 1));
        lazy.takes("kept by 3, r the least", (x, t) -> x.kept(t[0], 3, LEAST));
        lazy.takes("kept by 3, r the most", (x, t) -> x.kept(t[0], 3, MOST));
    }

    /** "(r from 0 to m - 1 for each KEY)": of a key below 0, too. */
    private static void promise10KeysBelow0() {
        Scene below = scene(x -> Things.numbers(
            Things.mapOf(x, false, false, -4, -3, -2, -1), Things.mapOf(x, true, false, -4, -3, -2, -1)));
        for (int order = 0; order < 2; order++) {
            int map = order;
            below.takes("kept of keys below 0, r 0", (x, t) -> x.kept(t[map], 3, 0), -3);
            below.takes("kept of keys below 0, r 1", (x, t) -> x.kept(t[map], 3, 1), -2);
            below.takes("kept of keys below 0, r 2", (x, t) -> x.kept(t[map], 3, 2), -4, -1);
            below.takes("kept of keys below 0, r -1", (x, t) -> x.kept(t[map], 3, -1));
        }
    }

    private static void promise10TheEndsOfTheLongs() {
        Scene ends = scene(MapStarts::ends);
        ends.takes("kept by the most, r 0", (x, t) -> x.kept(t[0], MOST, 0), 0, MOST);
        ends.takes("kept by the most, r the last", (x, t) -> x.kept(t[0], MOST, MOST - 1), LEAST, -1);
        ends.takes("kept by the most, r the most", (x, t) -> x.kept(t[0], MOST, MOST));
        ends.takes("kept by 2, r 0", (x, t) -> x.kept(t[0], 2, 0), LEAST, 0);
        ends.takes("kept by 2, r 1", (x, t) -> x.kept(t[0], 2, 1), -1, MOST);
        ends.takes("kept by 2, r 0, bits", (x, t) -> x.kept(t[1], 2, 0), 0, LEAST);
        ends.takes("kept by 2, r 1, bits", (x, t) -> x.kept(t[1], 2, 1), MOST, -1);
        ends.takes("kept by 1, r 0, bits", (x, t) -> x.kept(t[1], 1, 0), 0, MOST, LEAST, -1);
    }

    private static void promise10EmptyAndFull() {
        scene(MapStarts::empty).takes("kept of no keys", (x, t) -> x.kept(t[0], 1, 0));
        Scene hundred = scene(MapStarts::hundred);
        hundred.takes("kept of 100, all", (x, t) -> x.kept(t[0], 1, 0), Things.range(0, 100));
        hundred.takes("kept of 100, the last", (x, t) -> x.kept(t[0], 100, 99), 99);
        hundred.takes("kept of 100, none", (x, t) -> x.kept(t[0], 200, 150));
    }
}
