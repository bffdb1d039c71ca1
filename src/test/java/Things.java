/** Makes the things that several tests begin with, by as few calls as may be: an object has 512 of them. */
final class Things {
    static final int MOST = 300;
    static final int MOST_MEMBERS = 100;

    private Things() {
    }

    /** A map with these keys, each with itself as its value: its number. */
    static int mapOf(OrderedMaps x, boolean bits, boolean strict, long... keys) {
        int map = x.map(bits, strict);
        for (long key : keys) {
            map = x.put(map, key, key, 1);
        }
        return map;
    }

    /** As mapOf(), signed, with the keys from one number up to before another one. */
    static int mapOfRange(OrderedMaps x, boolean strict, int from, int to) {
        return mapOf(x, false, strict, range(from, to));
    }

    static int rowOf(OrderedMaps x, long... items) {
        int row = x.row();
        for (long item : items) {
            row = x.add(row, false, item);
        }
        return row;
    }

    static int heapOf(OrderedMaps x, long... items) {
        int heap = x.heap();
        for (long item : items) {
            heap = x.push(heap, item);
        }
        return heap;
    }

    /** Makes rows without items until there are so many things. */
    static void fillTo(OrderedMaps x, int things) {
        for (int made = x.told(0); made < things; made++) {
            x.row();
        }
    }

    static long[] range(int from, int to) {
        long[] numbers = new long[to - from];
        for (int i = 0; i < numbers.length; i++) {
            numbers[i] = from + i;
        }
        return numbers;
    }

    static int[] numbers(int... things) {
        return things;
    }
}
