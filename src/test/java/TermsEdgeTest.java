import java.util.ArrayList;
import java.util.List;

/** The document's terms: each sentence of them that names a boundary case, by a test of its own. */
public final class TermsEdgeTest {
    private static final long LEAST = Long.MIN_VALUE;
    private static final long MOST = Long.MAX_VALUE;
    private static final int MOST_CALLS = 512;
    private static final String FAILS = "throws.ArithmeticException";
    private static final Check CHECK = new Check("TermsEdgeTest");

    public static void main(String[] args) {
        theLastOf512Calls();
        numbersFrom0AsTheyAreMade();
        aRefusedCallTakesNoNumber();
        theThingWithTheLastNumber();
        keysEachOnce();
        orderOfLongs();
        orderOfLongsWithoutSign();
        madeMapsAreOfTheKindOfTheOld();
        cutOffTowards0();
        leastByMinus1IsTheLeast();
        withDividend0();
        withD0ItFails();
        strictIsWorkedWhenItIsPut();
        lazyIsWorkedWhenItIsNeeded();
        notWorkedAgainInWhateverMap();
        aNumber0IsKeptToo();
        failedIsWorkedAgainInWhateverMap();
        theVeryValues();
        itemsAtPlacesFrom0();
        itemsAsOftenAsTheyWerePushed();
        aValueThatFailedWasWorked();
        CHECK.end();
    }

    /** A call that makes a map of the first of three; its key 5 stays. */
    private interface Maker {
        int on(OrderedMaps x, int[] maps);
    }

    private record Making(String call, Maker maker) {
    }

    private static List<Making> makings() {
        List<Making> makings = new ArrayList<>();
        makings.add(new Making("put", (x, t) -> x.put(t[0], 6, 1, 1)));
        makings.add(new Making("put in place of another", (x, t) -> x.put(t[0], 4, 1, 1)));
        makings.add(new Making("drop", (x, t) -> x.drop(t[0], 4)));
        makings.add(new Making("union as a", (x, t) -> x.union(t[0], t[2])));
        makings.add(new Making("union as b", (x, t) -> x.union(t[1], t[0])));
        makings.add(new Making("both", (x, t) -> x.both(t[0], t[2])));
        makings.add(new Making("less", (x, t) -> x.less(t[0], t[1])));
        makings.add(new Making("part before", (x, t) -> x.part(t[0], 6, 0)));
        makings.add(new Making("part behind", (x, t) -> x.part(t[0], 4, 1)));
        makings.add(new Making("kept", (x, t) -> x.kept(t[0], 5, 0)));
        return makings;
    }

    /** Lazy maps, 0: with the keys 4 and 5, 1: with the key 7, 2: with a key 5, too; the first 5 is n by d. */
    private static int[] threeMaps(OrderedMaps x, long n, long d) {
        int[] maps = threeMapsOfKind(x, false, false);
        maps[0] = x.put(maps[0], 5, n, d);
        return maps;
    }

    private static int[] threeMapsOfKind(OrderedMaps x, boolean bits, boolean strict) {
        return Things.numbers(Things.mapOf(x, bits, strict, 4, 5), Things.mapOf(x, bits, strict, 7),
            x.put(x.map(bits, strict), 5, 990, 10));
    }

    // ---- what it is

    /** "An object is used for at most 512 calls": the last of them is answered as the first. */
    private static void theLastOf512Calls() {
        OrderedMaps x = new OrderedMaps();
        int calls = 0;
        int map = x.map(false, false);
        calls++;
        for (int made = 1; made < Things.MOST; made++) {
            int key = made % Things.MOST_MEMBERS;
            map = x.put(map, key, key, 1);
            CHECK.due("put as call " + calls, map, made);
            calls++;
        }
        while (calls < MOST_CALLS - 1) {
            CHECK.due("put with 300 things as call " + calls, x.put(map, 1, 1, 1), -4);
            calls++;
        }
        CHECK.due("fold as the 512th call", x.fold(map, 0, 99), 4950);
    }

    // ---- things

    /** "THINGS have numbers from 0 as they are made": of whatever sort. */
    private static void numbersFrom0AsTheyAreMade() {
        OrderedMaps x = new OrderedMaps();
        CHECK.due("the first thing", x.heap(), 0);
        CHECK.due("the second thing", x.map(true, true), 1);
        CHECK.due("the third thing", x.row(), 2);
        CHECK.due("a thing of the first", x.push(0, 1), 3);
        CHECK.due("a thing of the second", x.put(1, 1, 1, 1), 4);
        CHECK.due("a thing of the third", x.add(2, true, 1), 5);
        CHECK.due("a thing that is like an old one", x.heap(), 6);
        CHECK.due("the union of one with itself", x.union(4, 4), 7);
        CHECK.due("a row put together anew", x.join(5, 2), 8);
    }

    /** "then no THING is made": the next one has the number that was due before. */
    private static void aRefusedCallTakesNoNumber() {
        OrderedMaps x = new OrderedMaps();
        int strict = x.map(false, true);
        CHECK.due("-1", x.add(strict, true, 1), -1);
        CHECK.due("-2", x.part(strict, 1, 2), -2);
        CHECK.due("-3", x.drop(strict, 1), -3);
        CHECK.fails("a put", ArithmeticException.class, () -> x.put(strict, 1, 1, 0));
        CHECK.fails("a get", IllegalArgumentException.class, () -> x.get(7, 1));
        CHECK.due("the next thing after refused calls", x.row(), 1);
    }

    /** "300 at most": 299 is the last number that a thing has. */
    private static void theThingWithTheLastNumber() {
        OrderedMaps x = new OrderedMaps();
        Things.fillTo(x, Things.MOST - 2);
        x.heap();
        CHECK.due("the 300th thing", x.push(298, 4), 299);
        CHECK.due("the 301st thing", x.push(299, 4), -4);
        CHECK.due("least of the 300th", x.least(299), 4);
        CHECK.due("size of the 300th", x.size(299), 1);
        CHECK.due("sound of the 300th", x.sound(299), true);
        CHECK.due("same of the 300th and one before", x.same(299, 298), 0);
        CHECK.due("size of what would be the 301st", x.size(300), -1);
    }

    // ---- keys and orders

    /** "KEYS (longs, each once)". */
    private static void keysEachOnce() {
        for (long key : new long[] {LEAST, -1, 0, MOST}) {
            for (int order = 0; order < 2; order++) {
                boolean bits = order == 1;
                Scene once = new Scene(CHECK, x -> Things.numbers(Things.mapOf(x, bits, false, key, key)));
                once.takes("put of " + key + " again", (x, t) -> x.put(t[0], key, 7, 1), key);
                once.takes("union of " + key + " with itself", (x, t) -> x.union(t[0], t[0]), key);
                once.takes("drop of " + key + " that was put twice", (x, t) -> x.drop(t[0], key));
            }
        }
    }

    /** Puts the keys in every turn of their ring: whichever comes first, the order is the same. */
    private static void dueOrder(boolean bits, long... keys) {
        for (int first = 0; first < keys.length; first++) {
            int from = first;
            Scene turned = new Scene(CHECK, x -> {
                int map = x.map(bits, true);
                for (int i = 0; i < keys.length; i++) {
                    map = x.put(map, keys[(from + i * 3) % keys.length], 1, 1);
                }
                return Things.numbers(map);
            });
            turned.takes("all from " + keys[first] + " on", (x, t) -> x.kept(t[0], 1, 0), keys);
            turned.takes("all but " + keys[first], (x, t) -> x.drop(t[0], keys[from]), without(keys, first));
        }
    }

    private static long[] without(long[] keys, int place) {
        long[] rest = new long[keys.length - 1];
        for (int i = 0; i < rest.length; i++) {
            rest[i] = keys[i < place ? i : i + 1];
        }
        return rest;
    }

    /** "SIGNED (as longs)". */
    private static void orderOfLongs() {
        dueOrder(false, LEAST, LEAST + 1, -2, -1, 0, 1, MOST - 1, MOST);
    }

    /** "by BITS (as longs without sign)". */
    private static void orderOfLongsWithoutSign() {
        dueOrder(true, 0, 1, MOST - 1, MOST, LEAST, LEAST + 1, -2, -1);
    }

    /** A map that is made of others is of their ORDER, and STRICT as they are; one that has no keys, too. */
    private static void madeMapsAreOfTheKindOfTheOld() {
        List<Making> makings = makings();
        makings.add(new Making("both of none", (x, t) -> x.both(t[0], t[1])));
        makings.add(new Making("less itself", (x, t) -> x.less(t[0], t[0])));
        makings.add(new Making("part before all", (x, t) -> x.part(t[0], 4, 0)));
        makings.add(new Making("kept of none", (x, t) -> x.kept(t[0], 100, 99)));
        makings.add(new Making("drop of the only one", (x, t) -> x.drop(t[1], 7)));
        for (Making making : makings) {
            for (int kind = 0; kind < 4; kind++) {
                dueKind(making, kind / 2 == 1, kind % 2 == 1);
            }
        }
    }

    private static void dueKind(Making making, boolean bits, boolean strict) {
        OrderedMaps x = new OrderedMaps();
        int made = making.maker().on(x, threeMapsOfKind(x, bits, strict));
        String kind = " (bits " + bits + ", strict " + strict + ")";
        for (int other = 0; other < 4; other++) {
            boolean isAlike = bits == (other / 2 == 1) && strict == (other % 2 == 1);
            int map = x.map(other / 2 == 1, other % 2 == 1);
            CHECK.due(making.call() + kind + " beside kind " + other, x.union(made, map) == -3, !isAlike);
        }
        int signs = x.put(x.put(made, -1, 1, 1), LEAST, 1, 1);
        CHECK.due(making.call() + kind + ": rank of -1", x.rank(signs, -1), bits ? x.size(signs) - 1 : 1);
        String want = strict ? FAILS : Integer.toString(x.told(0));
        CHECK.due(making.call() + kind + ": put by 0", Check.answerOf(() -> x.put(made, 9, 1, 0)), want);
    }

    // ---- values

    /** The value of n and d, by get and by fold, lazy and strict, in both orders. */
    private static void dueValue(long n, long d, long want) {
        for (int kind = 0; kind < 4; kind++) {
            OrderedMaps x = new OrderedMaps();
            int map = x.put(x.map(kind / 2 == 1, kind % 2 == 1), 5, n, d);
            CHECK.due(n + " by " + d + ", fold", Check.answerOf(() -> x.fold(map, 5, 5)), Long.toString(want));
            CHECK.due(n + " by " + d + ", get", Check.answerOf(() -> x.get(map, 5)), Long.toString(want));
            CHECK.due(n + " by " + d + ", worked", x.worked(), 1);
        }
    }

    /** "n / d, cut off towards 0". */
    private static void cutOffTowards0() {
        dueValue(7, 2, 3);
        dueValue(-7, 2, -3);
        dueValue(7, -2, -3);
        dueValue(-7, -2, 3);
        dueValue(6, 2, 3);
        dueValue(-6, 2, -3);
        dueValue(-1, 2, 0);
        dueValue(1, -2, 0);
        dueValue(MOST, 2, MOST / 2);
        dueValue(LEAST, 2, LEAST / 2);
        dueValue(LEAST, MOST, -1);
        dueValue(LEAST + 1, MOST, -1);
        dueValue(MOST, LEAST, 0);
        dueValue(LEAST, LEAST, 1);
        dueValue(MOST, MOST, 1);
    }

    /** "(in 64 bits: of the least long and -1 it is the least long)": and of no other does it wrap. */
    private static void leastByMinus1IsTheLeast() {
        dueValue(LEAST, -1, LEAST);
        dueValue(LEAST + 1, -1, MOST);
        dueValue(MOST, -1, LEAST + 1);
        dueValue(LEAST, 1, LEAST);
        dueValue(MOST, 1, MOST);
        dueValue(LEAST, -2, -(LEAST / 2));
    }

    private static void withDividend0() {
        dueValue(0, 1, 0);
        dueValue(0, -1, 0);
        dueValue(0, LEAST, 0);
        dueValue(0, MOST, 0);
    }

    /** "with d 0 it FAILS": whatever n is. */
    private static void withD0ItFails() {
        for (long n : new long[] {0, 1, -1, LEAST, MOST}) {
            for (int order = 0; order < 2; order++) {
                boolean bits = order == 1;
                Scene strict = new Scene(CHECK, x -> Things.numbers(x.map(bits, true)));
                strict.answersWorking("strict put of " + n + " by 0", FAILS, 1, (x, t) -> x.put(t[0], 5, n, 0));
                Scene lazy = new Scene(CHECK, x -> Things.numbers(x.put(x.map(bits, false), 5, n, 0)));
                lazy.answersWorking("get of " + n + " by 0", FAILS, 1, (x, t) -> x.get(t[0], 5));
                lazy.answersWorking("fold of " + n + " by 0", FAILS, 1, (x, t) -> x.fold(t[0], 5, 5));
            }
        }
    }

    /** "In a STRICT MAP it is WORKED when it is put": and then never again. */
    private static void strictIsWorkedWhenItIsPut() {
        OrderedMaps x = new OrderedMaps();
        int map = x.map(true, true);
        CHECK.due("worked by a strict map", x.worked(), 0);
        map = x.put(map, 1, 6, 2);
        CHECK.due("worked by a strict put", x.worked(), 1);
        map = x.put(map, 1, 6, 2);
        CHECK.due("worked by a put in place of one", x.worked(), 2);
        int other = x.put(x.map(true, true), 2, 8, 2);
        CHECK.due("worked by another put", x.worked(), 3);
        int all = x.union(map, other);
        x.both(all, map);
        x.less(all, map);
        x.part(all, 2, 0);
        x.kept(all, 2, 0);
        x.drop(all, 1);
        CHECK.due("get in a map that was made of it", x.get(all, 1), 3);
        CHECK.due("fold in a map that was made of it", x.fold(all, 0, -1), 7);
        CHECK.due("worked by all of these", x.worked(), 3);
    }

    /** "WORKED when it is needed": by get and by fold, and by nothing else. */
    private static void lazyIsWorkedWhenItIsNeeded() {
        OrderedMaps x = new OrderedMaps();
        int[] maps = threeMaps(x, 7, 0);
        for (Making making : makings()) {
            int made = making.maker().on(x, maps);
            x.size(made);
            x.same(made, maps[0]);
            x.sound(made);
            x.has(made, 5);
            x.key(made, 0);
            x.rank(made, 5);
            CHECK.due("worked by " + making.call(), x.worked(), 0);
        }
        CHECK.due("fold of one beside it", x.fold(maps[0], 4, 4), 4);
        CHECK.due("worked by the fold", x.worked(), 1);
    }

    /** "the number is kept then, so that it is not WORKED again, in whatever MAP it is": an old one and a new one. */
    private static void notWorkedAgainInWhateverMap() {
        for (Making making : makings()) {
            for (int first = 0; first < 2; first++) {
                OrderedMaps x = new OrderedMaps();
                int[] maps = threeMaps(x, 30, 4);
                int made = making.maker().on(x, maps);
                int worksIt = first == 0 ? maps[0] : made;
                int hasIt = first == 0 ? made : maps[0];
                CHECK.due(making.call() + ": the one that works it", x.get(worksIt, 5), 7);
                CHECK.due(making.call() + ": worked then", x.worked(), 1);
                CHECK.due(making.call() + ": get in the other", x.get(hasIt, 5), 7);
                CHECK.due(making.call() + ": fold in the other", x.fold(hasIt, 5, 5), 7);
                CHECK.due(making.call() + ": not worked again", x.worked(), 1);
            }
        }
    }

    private static void aNumber0IsKeptToo() {
        OrderedMaps x = new OrderedMaps();
        int map = x.put(x.map(false, false), 5, 0, 7);
        for (int times = 0; times < 3; times++) {
            CHECK.due("get of 0 by 7", x.get(map, 5), 0);
            CHECK.due("fold of 0 by 7", x.fold(map, 5, 5), 0);
            CHECK.due("worked for 0 by 7", x.worked(), 1);
        }
    }

    /** "one that FAILED is WORKED again, and FAILS again, whenever it is needed". */
    private static void failedIsWorkedAgainInWhateverMap() {
        for (Making making : makings()) {
            OrderedMaps x = new OrderedMaps();
            int[] maps = threeMaps(x, 30, 0);
            int before = x.worked();
            CHECK.fails(making.call() + ": get before", ArithmeticException.class, () -> x.get(maps[0], 5));
            int made = making.maker().on(x, maps);
            CHECK.fails(making.call() + ": get", ArithmeticException.class, () -> x.get(made, 5));
            CHECK.fails(making.call() + ": fold", ArithmeticException.class, () -> x.fold(made, 5, 5));
            CHECK.fails(making.call() + ": get again", ArithmeticException.class, () -> x.get(made, 5));
            CHECK.fails(making.call() + ": in the old one", ArithmeticException.class, () -> x.get(maps[0], 5));
            CHECK.due(making.call() + ": worked each time", x.worked() - before, 5);
        }
    }

    /** "(MAPS that are made of others have their very VALUES.)": the same n and d put anew are another one. */
    private static void theVeryValues() {
        OrderedMaps x = new OrderedMaps();
        int old = x.put(x.map(false, false), 5, 8, 2);
        int anew = x.put(old, 5, 8, 2);
        int beside = x.put(old, 6, 8, 2);
        CHECK.due("the old value", x.get(old, 5), 4);
        CHECK.due("worked by the old one", x.worked(), 1);
        CHECK.due("the same n and d put anew", x.get(anew, 5), 4);
        CHECK.due("worked by the one put anew", x.worked(), 2);
        CHECK.due("the same n and d of another key", x.get(beside, 6), 4);
        CHECK.due("worked by the one of another key", x.worked(), 3);
        CHECK.due("all of the map with both", x.fold(beside, 5, 6), 8);
        CHECK.due("worked by neither", x.worked(), 3);
    }

    // ---- items

    /** "ITEMS (longs) at places from 0." */
    private static void itemsAtPlacesFrom0() {
        OrderedMaps x = new OrderedMaps();
        int row = Things.rowOf(x, LEAST, MOST);
        CHECK.due("the item at 0", x.at(row, 0), LEAST);
        CHECK.due("the item at 1", x.at(row, 1), MOST);
        CHECK.due("the place of the first", x.find(row, 0, LEAST), 0);
        CHECK.due("the item at 0, ahead", x.at(x.add(row, true, 7), 0), 7);
    }

    /** "each as often as it was pushed." */
    private static void itemsAsOftenAsTheyWerePushed() {
        Scene often = new Scene(CHECK, x -> Things.numbers(Things.heapOf(x, 4, LEAST, 4, MOST, 4, LEAST, MOST)));
        often.takes("pop of one that is there twice", (x, t) -> x.pop(t[0]), LEAST, 4, 4, 4, MOST, MOST);
        often.takes("push of one that is there thrice", (x, t) -> x.push(t[0], 4),
            LEAST, LEAST, 4, 4, 4, 4, MOST, MOST);
        long[] alike = new long[Things.MOST_MEMBERS];
        new Scene(CHECK, x -> Things.numbers(Things.heapOf(x, new long[Things.MOST_MEMBERS - 1])))
            .takes("push of the 100th that is alike", (x, t) -> x.push(t[0], 0), alike);
    }

    // ---- refused calls

    /** "then no THING is made (but a VALUE that FAILED was WORKED)": and what was worked before it is kept. */
    private static void aValueThatFailedWasWorked() {
        OrderedMaps x = new OrderedMaps();
        int map = x.put(Things.mapOf(x, false, false, 1, 2), 3, 1, 0);
        int things = x.told(0);
        CHECK.fails("fold that fails", ArithmeticException.class, () -> x.fold(map, 1, 3));
        CHECK.due("worked by the fold", x.worked(), 3);
        CHECK.due("things after the fold", x.told(0), things);
        CHECK.due("fold of those before", x.fold(map, 1, 2), 3);
        CHECK.due("which were kept", x.worked(), 3);
    }
}
