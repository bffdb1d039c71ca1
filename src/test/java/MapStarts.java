/** The maps that the tests of promises 3 to 15 begin with. */
final class MapStarts {
    private static final long LEAST = Long.MIN_VALUE;
    private static final long MOST = Long.MAX_VALUE;

    private MapStarts() {
    }

    static int[] nothing(OrderedMaps x) {
        return Things.numbers();
    }

    /** 0: lazy, signed, without keys. */
    static int[] empty(OrderedMaps x) {
        return Things.numbers(x.map(false, false));
    }

    /** 0: lazy, signed, with the keys 1, 3, 5. */
    static int[] lazy(OrderedMaps x) {
        return Things.numbers(Things.mapOf(x, false, false, 1, 3, 5));
    }

    /** 0: strict, signed, with the keys 1, 3, 5. */
    static int[] strict(OrderedMaps x) {
        return Things.numbers(Things.mapOf(x, false, true, 1, 3, 5));
    }

    /** 0: strict, signed, with the keys 0 to 99. */
    static int[] hundred(OrderedMaps x) {
        return Things.numbers(Things.mapOfRange(x, true, 0, 100));
    }

    /** 0: signed, 1: by bits; lazy, both with the keys that lie at the ends of the orders. */
    static int[] ends(OrderedMaps x) {
        return Things.numbers(
            Things.mapOf(x, false, false, LEAST, -1, 0, MOST), Things.mapOf(x, true, false, LEAST, -1, 0, MOST));
    }

    /** 0 to 3: of each order, lazy and strict, with the key 1. */
    static int[] ofEachKind(OrderedMaps x) {
        return Things.numbers(Things.mapOf(x, false, false, 1), Things.mapOf(x, false, true, 1),
            Things.mapOf(x, true, false, 1), Things.mapOf(x, true, true, 1));
    }

    /** Two strict maps, with the keys from 0 up to before one number, and from another one up to before a third. */
    static Scene.Start two(int firstEnd, int from, int to) {
        return x -> Things.numbers(Things.mapOfRange(x, true, 0, firstEnd), Things.mapOfRange(x, true, from, to));
    }
}
