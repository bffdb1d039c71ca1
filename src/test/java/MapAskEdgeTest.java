import java.util.Arrays;

/** Promises 11 to 15, what is asked of maps: each sentence that names a boundary case, by a test of its own. */
public final class MapAskEdgeTest {
    private static final long LEAST = Long.MIN_VALUE;
    private static final long MOST = Long.MAX_VALUE;
    private static final String NO_MAP = "throws.IllegalArgumentException";
    private static final String NO_KEY = "throws.NoSuchElementException";
    private static final String NO_PLACE = "throws.IndexOutOfBoundsException";
    private static final String FAILS = "throws.ArithmeticException";
    private static final Check CHECK = new Check("MapAskEdgeTest");

    public static void main(String[] args) {
        hasTests();
        getTests();
        keyTests();
        rankTests();
        foldTests();
        CHECK.end();
    }

    private static Scene scene(Scene.Start start) {
        return new Scene(CHECK, start);
    }

    private static Scene full(Scene.Start start) {
        return new Scene(CHECK, Scene.filled(start, Things.MOST));
    }

    // ---- promise 11: has

    private static void hasTests() {
        Scene.unknown(CHECK, "has", Scene.MAP, "0", (x, number) -> x.has(number, 1) ? 1 : 0);
        promise11TheEndsOfTheOrders();
        promise11EmptyAndFull();
    }

    private static void dueHas(Scene scene, int map, long key, boolean want) {
        scene.answers("has of " + key + " in " + map, want ? 1 : 0, (x, t) -> x.has(t[map], key) ? 1 : 0);
    }

    private static void promise11TheEndsOfTheOrders() {
        Scene ends = scene(MapStarts::ends);
        for (int map = 0; map < 2; map++) {
            for (long key : new long[] {LEAST, -1, 0, MOST}) {
                dueHas(ends, map, key, true);
            }
            for (long key : new long[] {LEAST + 1, -2, 1, MOST - 1}) {
                dueHas(ends, map, key, false);
            }
        }
    }

    private static void promise11EmptyAndFull() {
        dueHas(scene(MapStarts::empty), 0, 0, false);
        Scene hundred = scene(MapStarts::hundred);
        dueHas(hundred, 0, -1, false);
        dueHas(hundred, 0, 0, true);
        dueHas(hundred, 0, 99, true);
        dueHas(hundred, 0, 100, false);
    }

    // ---- promise 12: get

    private static void getTests() {
        Scene.unknown(CHECK, "get", Scene.MAP, NO_MAP, (x, number) -> x.get(number, 7));
        promise12ItHasNotTheKey();
        promise12ItFails();
        promise12ItIsNeeded();
        promise12TheFirstAndTheLastOfHundred();
    }

    /** "NoSuchElementException: it has not the KEY": then nothing is needed. */
    private static void promise12ItHasNotTheKey() {
        scene(MapStarts::empty).answers("get of no keys", NO_KEY, (x, t) -> x.get(t[0], 0));
        Scene lazy = scene(MapStarts::lazy);
        for (long key : new long[] {LEAST, 0, 2, 4, 6, MOST}) {
            lazy.answers("get of " + key, NO_KEY, (x, t) -> x.get(t[0], key));
        }
        scene(MapStarts::hundred).answers("get of what 100 have not", NO_KEY, (x, t) -> x.get(t[0], 100));
        scene(x -> Things.numbers(x.drop(x.put(MapStarts.lazy(x)[0], 7, 1, 0), 7)))
            .answers("get of one that was dropped", NO_KEY, (x, t) -> x.get(t[0], 7));
    }

    /** "ArithmeticException: it FAILS": it was worked, and is worked again. */
    private static void promise12ItFails() {
        Scene failing = scene(x ->
            Things.numbers(x.put(MapStarts.lazy(x)[0], 2, 7, 0), x.put(MapStarts.lazy(x)[0], 2, 0, 0)));
        failing.answersWorking("get that fails", FAILS, 1, (x, t) -> x.get(t[0], 2));
        failing.answersWorking("get of 0 / 0", FAILS, 1, (x, t) -> x.get(t[1], 2));
        full(x -> Things.numbers(x.put(MapStarts.lazy(x)[0], 2, 7, 0)))
            .answersWorking("get that fails, full", FAILS, 1, (x, t) -> x.get(t[0], 2));
    }

    /** "The VALUE of a KEY: it is needed." */
    private static void promise12ItIsNeeded() {
        OrderedMaps x = new OrderedMaps();
        int map = x.put(x.put(x.map(true, false), -1, LEAST, -1), 0, 0, LEAST);
        CHECK.due("worked before get", x.worked(), 0);
        CHECK.due("get of the least by -1", x.get(map, -1), LEAST);
        CHECK.due("worked by the first get", x.worked(), 1);
        CHECK.due("get of it again", x.get(map, -1), LEAST);
        CHECK.due("worked by the second get", x.worked(), 1);
        CHECK.due("get of 0 by the least", x.get(map, 0), 0);
        CHECK.due("get of 0 again", x.get(map, 0), 0);
        CHECK.due("a number 0 is kept, too", x.worked(), 2);
    }

    private static void promise12TheFirstAndTheLastOfHundred() {
        OrderedMaps x = new OrderedMaps();
        int map = Things.mapOfRange(x, false, 0, 100);
        CHECK.due("get of the first of 100", x.get(map, 0), 0);
        CHECK.due("get of the last of 100", x.get(map, 99), 99);
        CHECK.due("only these were needed", x.worked(), 2);
    }

    // ---- promise 13: key

    private static void keyTests() {
        Scene.unknown(CHECK, "key", Scene.MAP, NO_MAP, (x, number) -> x.key(number, -1));
        Scene.unknown(CHECK, "key at 0", Scene.MAP, NO_MAP, (x, number) -> x.key(number, 0));
        promise13NoSuchPlace();
        promise13TheEndsOfTheOrders();
    }

    /** "IndexOutOfBoundsException": the first and the last place are the last that are taken. */
    private static void promise13NoSuchPlace() {
        Scene lazy = scene(MapStarts::lazy);
        lazy.answers("key at 0 of 3", 1, (x, t) -> x.key(t[0], 0));
        lazy.answers("key at 2 of 3", 5, (x, t) -> x.key(t[0], 2));
        for (int place : new int[] {-1, 3, Integer.MIN_VALUE, Integer.MAX_VALUE}) {
            lazy.answers("key at " + place + " of 3", NO_PLACE, (x, t) -> x.key(t[0], place));
        }
        scene(MapStarts::empty).answers("key at 0 of none", NO_PLACE, (x, t) -> x.key(t[0], 0));
        Scene hundred = scene(MapStarts::hundred);
        hundred.answers("key at 99 of 100", 99, (x, t) -> x.key(t[0], 99));
        hundred.answers("key at 100 of 100", NO_PLACE, (x, t) -> x.key(t[0], 100));
    }

    /** "The KEY at a place of the ORDER (0 the first)." */
    private static void promise13TheEndsOfTheOrders() {
        Scene ends = scene(MapStarts::ends);
        long[][] due = {{LEAST, -1, 0, MOST}, {0, MOST, LEAST, -1}};
        for (int map = 0; map < 2; map++) {
            for (int place = 0; place < 4; place++) {
                int asked = map;
                int at = place;
                ends.answers("key at " + at + " of " + Arrays.toString(due[map]), due[map][at],
                    (x, t) -> x.key(t[asked], at));
            }
        }
    }

    // ---- promise 14: rank

    private static void rankTests() {
        Scene.unknown(CHECK, "rank", Scene.MAP, "-1", (x, number) -> x.rank(number, 1));
        promise14TheEndsOfTheOrders();
        promise14EmptyAndFull();
    }

    /** "How many KEYS are before one": the key itself is not, whether the map has it or not. */
    private static void promise14TheEndsOfTheOrders() {
        Scene ends = scene(MapStarts::ends);
        long[] keys = {LEAST, LEAST + 1, -2, -1, 0, 1, MOST - 1, MOST};
        int[][] due = {{0, 1, 1, 1, 2, 3, 3, 3}, {2, 3, 3, 3, 0, 1, 1, 1}};
        for (int map = 0; map < 2; map++) {
            for (int i = 0; i < keys.length; i++) {
                int asked = map;
                long key = keys[i];
                ends.answers("rank of " + key + ", map " + map, due[map][i], (x, t) -> x.rank(t[asked], key));
            }
        }
    }

    private static void promise14EmptyAndFull() {
        scene(MapStarts::empty).answers("rank in no keys", 0, (x, t) -> x.rank(t[0], MOST));
        Scene hundred = scene(MapStarts::hundred);
        hundred.answers("rank of the first of 100", 0, (x, t) -> x.rank(t[0], 0));
        hundred.answers("rank of the last of 100", 99, (x, t) -> x.rank(t[0], 99));
        hundred.answers("rank behind 100", 100, (x, t) -> x.rank(t[0], 100));
        hundred.answers("rank ahead of 100", 0, (x, t) -> x.rank(t[0], -1));
    }

    // ---- promise 15: fold

    private static void foldTests() {
        Scene.unknown(CHECK, "fold", Scene.MAP, NO_MAP, (x, number) -> x.fold(number, 0, 9));
        Scene.unknown(CHECK, "fold of no range", Scene.MAP, NO_MAP, (x, number) -> x.fold(number, 9, 0));
        promise15NotBeforeAndNotBehind();
        promise15OneBehindTheOther();
        promise15TheEndsOfTheOrders();
        promise15In64Bits();
        promise15NeededByTheOrder();
        promise15OneFails();
        promise15OneFailsOutside();
        promise15EmptyAndFull();
    }

    private static void dueFold(Scene.Start start, int map, long from, long to, long want, int workings) {
        OrderedMaps x = new OrderedMaps();
        int asked = start.things(x)[map];
        int before = x.worked();
        String call = "fold from " + from + " to " + to + " of map " + map;
        CHECK.due(call, Check.answerOf(() -> x.fold(asked, from, to)), Long.toString(want));
        CHECK.due("worked by " + call, x.worked() - before, workings);
        CHECK.due(call + " again", Check.answerOf(() -> x.fold(asked, from, to)), Long.toString(want));
        CHECK.due("worked by it again", x.worked() - before, workings);
    }

    /** "that are not before one, and not behind another one": both themselves are among them. */
    private static void promise15NotBeforeAndNotBehind() {
        dueFold(MapStarts::lazy, 0, 1, 5, 9, 3);
        dueFold(MapStarts::lazy, 0, 0, 6, 9, 3);
        dueFold(MapStarts::lazy, 0, 2, 5, 8, 2);
        dueFold(MapStarts::lazy, 0, 1, 4, 4, 2);
        dueFold(MapStarts::lazy, 0, 3, 3, 3, 1);
        dueFold(MapStarts::lazy, 0, 2, 2, 0, 0);
        dueFold(MapStarts::lazy, 0, 2, 4, 3, 1);
        dueFold(MapStarts::lazy, 0, LEAST, 0, 0, 0);
        dueFold(MapStarts::lazy, 0, 6, MOST, 0, 0);
    }

    /** No key is both not before the one and not behind the other then: the sum of none. */
    private static void promise15OneBehindTheOther() {
        dueFold(MapStarts::lazy, 0, 5, 1, 0, 0);
        dueFold(MapStarts::lazy, 0, 4, 3, 0, 0);
        dueFold(MapStarts::lazy, 0, MOST, LEAST, 0, 0);
        dueFold(MapStarts::ends, 0, 0, -1, 0, 0);
        dueFold(MapStarts::ends, 1, -1, 0, 0, 0);
        dueFold(MapStarts::ends, 1, LEAST, MOST, 0, 0);
    }

    private static void promise15TheEndsOfTheOrders() {
        dueFold(MapStarts::ends, 0, LEAST, MOST, -2, 4);
        dueFold(MapStarts::ends, 0, LEAST, LEAST, LEAST, 1);
        dueFold(MapStarts::ends, 0, MOST, MOST, MOST, 1);
        dueFold(MapStarts::ends, 0, LEAST + 1, MOST - 1, -1, 2);
        dueFold(MapStarts::ends, 1, 0, -1, -2, 4);
        dueFold(MapStarts::ends, 1, 0, MOST, MOST, 2);
        dueFold(MapStarts::ends, 1, LEAST, -1, MOST, 2);
        dueFold(MapStarts::ends, 1, 1, -2, -1, 2);
        dueFold(MapStarts::ends, 1, -1, -1, -1, 1);
    }

    /** "The sum (in 64 bits)". */
    private static void promise15In64Bits() {
        long[][] rows = {
            {MOST, 1, LEAST}, {MOST, MOST, -2}, {LEAST, -1, MOST}, {LEAST, LEAST, 0}, {MOST, LEAST, -1},
            {MOST, 0, MOST},
        };
        for (long[] row : rows) {
            for (int kind = 0; kind < 4; kind++) {
                boolean bits = kind / 2 == 1;
                boolean strict = kind % 2 == 1;
                Scene.Start sum = x ->
                    Things.numbers(x.put(x.put(x.map(bits, strict), 7, row[0], 1), 8, row[1], 1));
                dueFold(sum, 0, 7, 8, row[2], strict ? 0 : 2);
            }
        }
        dueFold(x -> Things.numbers(x.put(x.put(x.put(x.map(false, false), 1, MOST, 1), 2, 1, 1), 3, -1, 1)),
            0, 1, 3, MOST, 3);
        dueFold(x -> Things.numbers(x.put(x.put(x.map(false, false), 1, LEAST, -1), 2, LEAST, -1)), 0, 1, 2, 0, 2);
    }

    /** "they are needed by the ORDER": the one that fails stands at another place in each order. */
    private static void promise15NeededByTheOrder() {
        for (int order = 0; order < 2; order++) {
            boolean bits = order == 1;
            OrderedMaps x = new OrderedMaps();
            int map = x.put(Things.mapOf(x, bits, false, -2, 1, 2), -1, 5, 0);
            CHECK.fails("fold by order " + order, ArithmeticException.class,
                () -> bits ? x.fold(map, 0, -1) : x.fold(map, LEAST, MOST));
            CHECK.due("worked by order " + order, x.worked(), bits ? 4 : 2);
            CHECK.due("the value of 1", x.get(map, 1), 1);
            CHECK.due("it was needed only if it stands before", x.worked(), bits ? 4 : 3);
        }
    }

    /** "ArithmeticException: one FAILS (those behind it are not needed then)." */
    private static void promise15OneFails() {
        for (int place = 0; place < 3; place++) {
            OrderedMaps x = new OrderedMaps();
            int map = x.put(MapStarts.lazy(x)[0], 1 + 2 * place, 9, 0);
            CHECK.fails("fold, failing at " + place, ArithmeticException.class, () -> x.fold(map, 1, 5));
            CHECK.due("worked, failing at " + place, x.worked(), place + 1);
            CHECK.fails("fold again, failing at " + place, ArithmeticException.class, () -> x.fold(map, 1, 5));
            CHECK.due("worked again, failing at " + place, x.worked(), place + 2);
        }
        OrderedMaps x = new OrderedMaps();
        int two = x.put(x.put(MapStarts.lazy(x)[0], 1, 9, 0), 3, 9, 0);
        CHECK.fails("fold, two fail", ArithmeticException.class, () -> x.fold(two, 1, 5));
        CHECK.due("only the first of them is needed", x.worked(), 1);
        int things = x.told(0);
        CHECK.due("no thing was made", x.row(), things);
    }

    /** What is before the one, or behind the other one, is not needed: it does not fail. */
    private static void promise15OneFailsOutside() {
        Scene.Start failing = x -> Things.numbers(x.put(x.put(MapStarts.lazy(x)[0], 0, 9, 0), 6, 9, 0));
        dueFold(failing, 0, 1, 5, 9, 3);
        dueFold(failing, 0, 1, 1, 1, 1);
        dueFold(failing, 0, 6, 0, 0, 0);
        OrderedMaps x = new OrderedMaps();
        int map = failing.things(x)[0];
        CHECK.fails("fold from the one that fails on", ArithmeticException.class, () -> x.fold(map, 0, 5));
        CHECK.due("nothing behind it is needed", x.worked(), 1);
        CHECK.fails("fold up to the one that fails", ArithmeticException.class, () -> x.fold(map, 1, 6));
        CHECK.due("all before it are", x.worked(), 5);
    }

    private static void promise15EmptyAndFull() {
        dueFold(MapStarts::empty, 0, LEAST, MOST, 0, 0);
        dueFold(MapStarts::hundred, 0, 0, 99, 4950, 0);
        dueFold(x -> Things.numbers(Things.mapOfRange(x, false, 0, 100)), 0, LEAST, MOST, 4950, 100);
        dueFold(x -> Things.numbers(Things.mapOfRange(x, false, 0, 100)), 0, 99, 99, 99, 1);
    }
}
