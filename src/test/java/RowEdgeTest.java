/** Promises 16 to 23: each sentence that names a boundary case, by a test of its own. */
public final class RowEdgeTest {
    private static final long LEAST = Long.MIN_VALUE;
    private static final long MOST = Long.MAX_VALUE;
    private static final int[] FAR_PLACES = {-1, 3, 256, Integer.MIN_VALUE, Integer.MAX_VALUE};
    private static final String NO_ROW = "throws.IllegalArgumentException";
    private static final String NO_PLACE = "throws.IndexOutOfBoundsException";
    private static final Check CHECK = new Check("RowEdgeTest");

    public static void main(String[] args) {
        promise16FirstAndLastThing();
        addTests();
        joinTests();
        cutTests();
        replaceTests();
        turnedTests();
        atTests();
        findTests();
        CHECK.end();
    }

    // ---- scenes

    private static Scene scene(Scene.Start start) {
        return new Scene(CHECK, start);
    }

    private static Scene full(Scene.Start start) {
        return new Scene(CHECK, Scene.filled(start, Things.MOST));
    }

    private static int[] nothing(OrderedMaps x) {
        return Things.numbers();
    }

    /** 0: a row without items. */
    private static int[] empty(OrderedMaps x) {
        return Things.numbers(x.row());
    }

    /** 0: a row with the items 5, 6, 7. */
    private static int[] three(OrderedMaps x) {
        return Things.numbers(Things.rowOf(x, 5, 6, 7));
    }

    /** 0: a row with the items 0 to 99. */
    private static int[] hundred(OrderedMaps x) {
        return Things.numbers(Things.rowOf(x, Things.range(0, 100)));
    }

    /** Two rows, with the items from 0 up to before one number, and from there up to before another one. */
    private static Scene.Start two(int firstEnd, int to) {
        return x -> Things.numbers(
            Things.rowOf(x, Things.range(0, firstEnd)), Things.rowOf(x, Things.range(firstEnd, to)));
    }

    // ---- promise 16: row

    /** "A ROW without ITEMS: its number. -4." */
    private static void promise16FirstAndLastThing() {
        scene(RowEdgeTest::nothing).takes("row of a new object", (x, t) -> x.row());
        scene(RowEdgeTest::three).takes("row besides", (x, t) -> x.row());
        Scene.lastThing(CHECK, "row", RowEdgeTest::nothing, (x, t) -> x.row());
    }

    // ---- promise 17: add

    private static void addTests() {
        Scene.unknown(CHECK, "add ahead", Scene.ROW, "-1", (x, number) -> x.add(number, true, 1));
        Scene.unknown(CHECK, "add behind", Scene.ROW, "-1", (x, number) -> x.add(number, false, 1));
        Scene.lastThing(CHECK, "add ahead", RowEdgeTest::three, (x, t) -> x.add(t[0], true, 1));
        Scene.lastThing(CHECK, "add behind", RowEdgeTest::three, (x, t) -> x.add(t[0], false, 1));
        promise17TheHundredthItem();
        promise17FullComesBeforeMoreThanHundred();
        promise17AheadAndBehind();
    }

    /** "-2": there would be more than 100. */
    private static void promise17TheHundredthItem() {
        Scene before = scene(x -> Things.numbers(Things.rowOf(x, Things.range(0, 99))));
        before.takes("add of the 100th item", (x, t) -> x.add(t[0], false, 99), Things.range(0, 100));
        before.takes("add of the 100th item, ahead", (x, t) -> x.add(t[0], true, -1), Things.range(-1, 99));
        Scene hundred = scene(RowEdgeTest::hundred);
        hundred.answers("add of the 101st item", -2, (x, t) -> x.add(t[0], false, 100));
        hundred.answers("add of the 101st item, ahead", -2, (x, t) -> x.add(t[0], true, -1));
        hundred.answers("add of an item that it has", -2, (x, t) -> x.add(t[0], false, 99));
        scene(x -> Things.numbers(x.cut(hundred(x)[0], 99, 0)))
            .takes("add after a cut", (x, t) -> x.add(t[0], false, 99), Things.range(0, 100));
    }

    /** "-4; -2": the first that fits comes. */
    private static void promise17FullComesBeforeMoreThanHundred() {
        full(RowEdgeTest::hundred).answers("add of the 101st, full", -4, (x, t) -> x.add(t[0], false, 100));
        full(RowEdgeTest::hundred).answers("add of the 101st ahead, full", -4, (x, t) -> x.add(t[0], true, 100));
    }

    /** "ahead of the others or behind them". */
    private static void promise17AheadAndBehind() {
        Scene three = scene(RowEdgeTest::three);
        three.takes("add of the least ahead", (x, t) -> x.add(t[0], true, LEAST), LEAST, 5, 6, 7);
        three.takes("add of the most ahead", (x, t) -> x.add(t[0], true, MOST), MOST, 5, 6, 7);
        three.takes("add of the least behind", (x, t) -> x.add(t[0], false, LEAST), 5, 6, 7, LEAST);
        three.takes("add of an item again", (x, t) -> x.add(t[0], false, 7), 5, 6, 7, 7);
        scene(RowEdgeTest::empty).takes("add ahead of none", (x, t) -> x.add(t[0], true, 4), 4);
        scene(RowEdgeTest::empty).takes("add behind none", (x, t) -> x.add(t[0], false, 4), 4);
    }

    // ---- promise 18: join

    private static void joinTests() {
        Scene.unknown(CHECK, "join first", Scene.ROW, "-1", (x, number) -> x.join(number, Scene.KNOWN_ROW));
        Scene.unknown(CHECK, "join second", Scene.ROW, "-1", (x, number) -> x.join(Scene.KNOWN_ROW, number));
        Scene.unknown(CHECK, "join twice", Scene.ROW, "-1", (x, number) -> x.join(number, number));
        Scene.lastThing(CHECK, "join", RowEdgeTest::three, (x, t) -> x.join(t[0], t[0]));
        promise18TheHundredthItem();
        promise18FullComesBeforeMoreThanHundred();
        promise18WithoutItems();
    }

    /** "-2": there would be more than 100. */
    private static void promise18TheHundredthItem() {
        scene(two(60, 100)).takes("join of 60 and 40", (x, t) -> x.join(t[0], t[1]), Things.range(0, 100));
        scene(two(60, 101)).answers("join of 60 and 41", -2, (x, t) -> x.join(t[0], t[1]));
        scene(two(60, 101)).answers("join of 41 and 60", -2, (x, t) -> x.join(t[1], t[0]));
        scene(two(99, 100)).takes("join of 99 and 1", (x, t) -> x.join(t[0], t[1]), Things.range(0, 100));
        scene(two(1, 100)).takes("join of 1 and 99", (x, t) -> x.join(t[0], t[1]), Things.range(0, 100));
        scene(two(100, 100)).takes("join of 100 and none", (x, t) -> x.join(t[0], t[1]), Things.range(0, 100));
        scene(two(100, 100)).takes("join of none and 100", (x, t) -> x.join(t[1], t[0]), Things.range(0, 100));
        scene(two(100, 101)).answers("join of 100 and 1", -2, (x, t) -> x.join(t[0], t[1]));
        scene(two(100, 101)).answers("join of 1 and 100", -2, (x, t) -> x.join(t[1], t[0]));
        scene(RowEdgeTest::hundred).answers("join of 100 and itself", -2, (x, t) -> x.join(t[0], t[0]));
    }

    /** "-4; -2": the first that fits comes. */
    private static void promise18FullComesBeforeMoreThanHundred() {
        full(RowEdgeTest::hundred).answers("join of 200, full", -4, (x, t) -> x.join(t[0], t[0]));
    }

    private static void promise18WithoutItems() {
        Scene some = scene(x -> Things.numbers(three(x)[0], x.row()));
        some.takes("join with none", (x, t) -> x.join(t[0], t[1]), 5, 6, 7);
        some.takes("join of none", (x, t) -> x.join(t[1], t[0]), 5, 6, 7);
        some.takes("join of none with none", (x, t) -> x.join(t[1], t[1]));
        some.takes("join with itself", (x, t) -> x.join(t[0], t[0]), 5, 6, 7, 5, 6, 7);
    }

    // ---- promise 19: cut

    private static void cutTests() {
        Scene.unknown(CHECK, "cut", Scene.ROW, "-1", (x, number) -> x.cut(number, 1, 0));
        Scene.unknown(CHECK, "cut by a wrong n", Scene.ROW, "-1", (x, number) -> x.cut(number, -1, 0));
        Scene.unknown(CHECK, "cut by a wrong side", Scene.ROW, "-1", (x, number) -> x.cut(number, 1, 2));
        Scene.lastThing(CHECK, "cut of the first", RowEdgeTest::three, (x, t) -> x.cut(t[0], 1, 0));
        Scene.lastThing(CHECK, "cut of the others", RowEdgeTest::three, (x, t) -> x.cut(t[0], 1, 1));
        promise19NBelow0();
        promise19NAboveHowManyThereAre();
        promise19Side();
        promise19OutsideComesBeforeFull();
        promise19EmptyAndFull();
    }

    /** "-2 n is below 0": 0 is the last that is taken. */
    private static void promise19NBelow0() {
        Scene three = scene(RowEdgeTest::three);
        three.takes("cut of the first 0", (x, t) -> x.cut(t[0], 0, 0));
        three.takes("cut of the others of 0", (x, t) -> x.cut(t[0], 0, 1), 5, 6, 7);
        for (int n : new int[] {-1, -3, Integer.MIN_VALUE, Integer.MIN_VALUE + 1}) {
            three.answers("cut of the first " + n, -2, (x, t) -> x.cut(t[0], n, 0));
            three.answers("cut of the others of " + n, -2, (x, t) -> x.cut(t[0], n, 1));
        }
    }

    /** "or above how many there are": how many there are is the last that is taken. */
    private static void promise19NAboveHowManyThereAre() {
        Scene three = scene(RowEdgeTest::three);
        three.takes("cut of the first 3", (x, t) -> x.cut(t[0], 3, 0), 5, 6, 7);
        three.takes("cut of the others of 3", (x, t) -> x.cut(t[0], 3, 1));
        for (int n : new int[] {4, 100, 101, Integer.MAX_VALUE}) {
            three.answers("cut of the first " + n, -2, (x, t) -> x.cut(t[0], n, 0));
            three.answers("cut of the others of " + n, -2, (x, t) -> x.cut(t[0], n, 1));
        }
    }

    /** "side": 0 and 1 are the last that are taken. */
    private static void promise19Side() {
        Scene three = scene(RowEdgeTest::three);
        three.takes("cut by side 0", (x, t) -> x.cut(t[0], 2, 0), 5, 6);
        three.takes("cut by side 1", (x, t) -> x.cut(t[0], 2, 1), 7);
        for (int side : new int[] {-1, 2, 256, Integer.MIN_VALUE, Integer.MAX_VALUE}) {
            three.answers("cut by side " + side, -2, (x, t) -> x.cut(t[0], 2, side));
            three.answers("cut by -1 and side " + side, -2, (x, t) -> x.cut(t[0], -1, side));
        }
    }

    /** "-2 ..; -4": the first that fits comes. */
    private static void promise19OutsideComesBeforeFull() {
        Scene three = full(RowEdgeTest::three);
        three.answers("cut by -1, full", -2, (x, t) -> x.cut(t[0], -1, 0));
        three.answers("cut by 4, full", -2, (x, t) -> x.cut(t[0], 4, 0));
        three.answers("cut by side 2, full", -2, (x, t) -> x.cut(t[0], 1, 2));
        three.answers("cut by side -1, full", -2, (x, t) -> x.cut(t[0], 1, -1));
    }

    private static void promise19EmptyAndFull() {
        Scene empty = scene(RowEdgeTest::empty);
        empty.takes("cut of none, the first 0", (x, t) -> x.cut(t[0], 0, 0));
        empty.takes("cut of none, the others", (x, t) -> x.cut(t[0], 0, 1));
        empty.answers("cut of none, the first 1", -2, (x, t) -> x.cut(t[0], 1, 0));
        empty.answers("cut of none, the others of 1", -2, (x, t) -> x.cut(t[0], 1, 1));
        Scene hundred = scene(RowEdgeTest::hundred);
        hundred.takes("cut of the first 100", (x, t) -> x.cut(t[0], 100, 0), Things.range(0, 100));
        hundred.takes("cut of the others of 100", (x, t) -> x.cut(t[0], 100, 1));
        hundred.takes("cut of 100, the others of 0", (x, t) -> x.cut(t[0], 0, 1), Things.range(0, 100));
        hundred.takes("cut of the others of 99", (x, t) -> x.cut(t[0], 99, 1), 99);
        hundred.answers("cut of the first 101", -2, (x, t) -> x.cut(t[0], 101, 0));
    }

    // ---- promise 20: replace

    private static void replaceTests() {
        Scene.unknown(CHECK, "replace", Scene.ROW, "-1", (x, number) -> x.replace(number, 0, 1));
        Scene.unknown(CHECK, "replace at -1", Scene.ROW, "-1", (x, number) -> x.replace(number, -1, 1));
        Scene.lastThing(CHECK, "replace", RowEdgeTest::three, (x, t) -> x.replace(t[0], 0, 1));
        promise20ThePlace();
        promise20ThePlaceComesBeforeFull();
        promise20EmptyAndFull();
    }

    /** "-2 the place": the first and the last place are the last that are taken. */
    private static void promise20ThePlace() {
        Scene three = scene(RowEdgeTest::three);
        three.takes("replace at 0", (x, t) -> x.replace(t[0], 0, LEAST), LEAST, 6, 7);
        three.takes("replace at 2", (x, t) -> x.replace(t[0], 2, MOST), 5, 6, MOST);
        three.takes("replace by the same item", (x, t) -> x.replace(t[0], 1, 6), 5, 6, 7);
        for (int place : FAR_PLACES) {
            three.answers("replace at " + place, -2, (x, t) -> x.replace(t[0], place, 1));
        }
    }

    /** "-2 the place; -4": the first that fits comes. */
    private static void promise20ThePlaceComesBeforeFull() {
        full(RowEdgeTest::three).answers("replace at 3, full", -2, (x, t) -> x.replace(t[0], 3, 1));
        full(RowEdgeTest::three).answers("replace at -1, full", -2, (x, t) -> x.replace(t[0], -1, 1));
    }

    private static void promise20EmptyAndFull() {
        scene(RowEdgeTest::empty).answers("replace in none", -2, (x, t) -> x.replace(t[0], 0, 1));
        long[] due = Things.range(0, 100);
        due[99] = 7;
        scene(RowEdgeTest::hundred).takes("replace at 99 of 100", (x, t) -> x.replace(t[0], 99, 7), due);
        scene(RowEdgeTest::hundred).answers("replace at 100 of 100", -2, (x, t) -> x.replace(t[0], 100, 7));
    }

    // ---- promise 21: turned

    private static void turnedTests() {
        Scene.unknown(CHECK, "turned", Scene.ROW, "-1", (x, number) -> x.turned(number));
        Scene.lastThing(CHECK, "turned", RowEdgeTest::three, (x, t) -> x.turned(t[0]));
        Scene.lastThing(CHECK, "turned of none", RowEdgeTest::empty, (x, t) -> x.turned(t[0]));
        promise21EmptyAndFull();
    }

    private static void promise21EmptyAndFull() {
        scene(RowEdgeTest::empty).takes("turned of none", (x, t) -> x.turned(t[0]));
        scene(x -> Things.numbers(Things.rowOf(x, 4))).takes("turned of one", (x, t) -> x.turned(t[0]), 4);
        scene(RowEdgeTest::three).takes("turned of three", (x, t) -> x.turned(t[0]), 7, 6, 5);
        long[] due = new long[100];
        for (int i = 0; i < due.length; i++) {
            due[i] = 99 - i;
        }
        scene(RowEdgeTest::hundred).takes("turned of 100", (x, t) -> x.turned(t[0]), due);
    }

    // ---- promise 22: at

    private static void atTests() {
        Scene.unknown(CHECK, "at 0", Scene.ROW, NO_ROW, (x, number) -> x.at(number, 0));
        Scene.unknown(CHECK, "at -1", Scene.ROW, NO_ROW, (x, number) -> x.at(number, -1));
        promise22NoSuchPlace();
        promise22EmptyAndFull();
    }

    /** "IndexOutOfBoundsException": the first and the last place are the last that are taken. */
    private static void promise22NoSuchPlace() {
        Scene three = scene(RowEdgeTest::three);
        three.answers("at 0 of 3", 5, (x, t) -> x.at(t[0], 0));
        three.answers("at 2 of 3", 7, (x, t) -> x.at(t[0], 2));
        for (int place : FAR_PLACES) {
            three.answers("at " + place + " of 3", NO_PLACE, (x, t) -> x.at(t[0], place));
        }
    }

    private static void promise22EmptyAndFull() {
        scene(RowEdgeTest::empty).answers("at 0 of none", NO_PLACE, (x, t) -> x.at(t[0], 0));
        Scene hundred = scene(RowEdgeTest::hundred);
        hundred.answers("at 0 of 100", 0, (x, t) -> x.at(t[0], 0));
        hundred.answers("at 99 of 100", 99, (x, t) -> x.at(t[0], 99));
        hundred.answers("at 100 of 100", NO_PLACE, (x, t) -> x.at(t[0], 100));
    }

    // ---- promise 23: find

    private static void findTests() {
        Scene.unknown(CHECK, "find", Scene.ROW, "-1", (x, number) -> x.find(number, 0, 0));
        Scene.unknown(CHECK, "find from -1", Scene.ROW, "-1", (x, number) -> x.find(number, -1, 0));
        promise23ThePlaceBelow0();
        promise23FromAPlaceOn();
        promise23NotBelowANumber();
        promise23ThereIsNone();
        promise23TheFirstOfSeveral();
        promise23Full();
    }

    /** "-2 the place is below 0": 0 is the last that is taken; "-2" comes before "-3". */
    private static void promise23ThePlaceBelow0() {
        Scene three = scene(RowEdgeTest::three);
        three.answers("find from 0", 0, (x, t) -> x.find(t[0], 0, 5));
        for (int place : new int[] {-1, -2, Integer.MIN_VALUE}) {
            three.answers("find from " + place, -2, (x, t) -> x.find(t[0], place, 5));
            three.answers("find what is not there from " + place, -2, (x, t) -> x.find(t[0], place, 8));
        }
        scene(RowEdgeTest::empty).answers("find in none from -1", -2, (x, t) -> x.find(t[0], -1, 5));
    }

    /** "from a place on": the item at the place is the first that is looked at. */
    private static void promise23FromAPlaceOn() {
        Scene three = scene(RowEdgeTest::three);
        three.answers("find from 1", 1, (x, t) -> x.find(t[0], 1, LEAST));
        three.answers("find from 2", 2, (x, t) -> x.find(t[0], 2, 7));
        three.answers("find from 3", -3, (x, t) -> x.find(t[0], 3, LEAST));
        three.answers("find from 100", -3, (x, t) -> x.find(t[0], 100, LEAST));
        three.answers("find from the most", -3, (x, t) -> x.find(t[0], Integer.MAX_VALUE, LEAST));
    }

    /** "that is not below a number": the number itself is not. */
    private static void promise23NotBelowANumber() {
        Scene three = scene(RowEdgeTest::three);
        three.answers("find the number itself", 1, (x, t) -> x.find(t[0], 0, 6));
        three.answers("find the number before the first", 0, (x, t) -> x.find(t[0], 0, 4));
        Scene ends = scene(x -> Things.numbers(Things.rowOf(x, LEAST, -1, 0, MOST)));
        ends.answers("find the least", 0, (x, t) -> x.find(t[0], 0, LEAST));
        ends.answers("find what is above the least", 1, (x, t) -> x.find(t[0], 0, LEAST + 1));
        ends.answers("find 0 among those with a sign", 2, (x, t) -> x.find(t[0], 0, 0));
        ends.answers("find the most", 3, (x, t) -> x.find(t[0], 0, MOST));
    }

    /** "-3 there is none." */
    private static void promise23ThereIsNone() {
        Scene three = scene(RowEdgeTest::three);
        three.answers("find 8", -3, (x, t) -> x.find(t[0], 0, 8));
        three.answers("find the most", -3, (x, t) -> x.find(t[0], 0, MOST));
        scene(RowEdgeTest::empty).answers("find in none", -3, (x, t) -> x.find(t[0], 0, LEAST));
        scene(x -> Things.numbers(Things.rowOf(x, 9, 1)))
            .answers("find what is only ahead of the place", -3, (x, t) -> x.find(t[0], 1, 9));
    }

    /** "of the first ITEM": also where a later one is nearer to the number. */
    private static void promise23TheFirstOfSeveral() {
        Scene several = scene(x -> Things.numbers(Things.rowOf(x, 1, 9, 5, 5, 2)));
        several.answers("find the first of several", 1, (x, t) -> x.find(t[0], 0, 5));
        several.answers("find the first of two alike", 2, (x, t) -> x.find(t[0], 2, 5));
        several.answers("find the second of two alike", 3, (x, t) -> x.find(t[0], 3, 5));
    }

    private static void promise23Full() {
        Scene hundred = scene(RowEdgeTest::hundred);
        hundred.answers("find the last of 100", 99, (x, t) -> x.find(t[0], 0, 99));
        hundred.answers("find the last of 100 from it on", 99, (x, t) -> x.find(t[0], 99, 0));
        hundred.answers("find behind 100", -3, (x, t) -> x.find(t[0], 100, 0));
        full(RowEdgeTest::three).answers("find with 300 things", 2, (x, t) -> x.find(t[0], 0, 7));
    }
}
