import java.lang.reflect.Constructor;
import java.lang.reflect.Field;

/**
 * Promise 31 from within: no call can make a thing that is not sound, so the rules are broken here by hand, in the
 * arrays in which this class keeps its things. The document leaves free how it keeps them.
 */
public final class SoundTest {
    private static final Check CHECK = new Check("SoundTest");

    public static void main(String[] args) throws ReflectiveOperationException {
        if (!keepsThingsInAnArray()) {
            System.out.println("SoundTest: left out, since the things are kept otherwise");
            return;
        }
        keysOutOfOrder(false, 1, 2);
        keysOutOfOrder(true, 1, -1);
        aKeyTwice();
        aKeyWithoutAValue();
        aStrictValueThatWasNotWorked();
        itemsOfAHeapOutOfOrder();
        moreThanHundred();
        CHECK.end();
    }

    private static boolean keepsThingsInAnArray() {
        for (Field field : OrderedMaps.class.getDeclaredFields()) {
            if (field.getName().equals("things")) {
                return true;
            }
        }
        return false;
    }

    private static Object inside(Object of, String name) throws ReflectiveOperationException {
        return field(of.getClass(), name).get(of);
    }

    private static Field field(Class<?> type, String name) throws ReflectiveOperationException {
        for (Class<?> at = type; at != null; at = at.getSuperclass()) {
            for (Field field : at.getDeclaredFields()) {
                if (field.getName().equals(name)) {
                    field.setAccessible(true);
                    return field;
                }
            }
        }
        throw new NoSuchFieldException(name);
    }

    private static Object thing(OrderedMaps x, int number) throws ReflectiveOperationException {
        return ((Object[]) inside(x, "things"))[number];
    }

    private static long[] members(OrderedMaps x, int number) throws ReflectiveOperationException {
        return (long[]) inside(thing(x, number), "members");
    }

    private static Object[] values(OrderedMaps x, int number) throws ReflectiveOperationException {
        return (Object[]) inside(thing(x, number), "values");
    }

    private static void keysOutOfOrder(boolean bits, long first, long last) throws ReflectiveOperationException {
        OrderedMaps x = new OrderedMaps();
        int map = Things.mapOf(x, bits, false, first, last);
        CHECK.due("sound before", x.sound(map), true);
        members(x, map)[0] = last;
        members(x, map)[1] = first;
        CHECK.due("sound with keys out of order", x.sound(map), false);
        CHECK.due("sound of another map", x.sound(map - 1), true);
    }

    private static void aKeyTwice() throws ReflectiveOperationException {
        OrderedMaps x = new OrderedMaps();
        int map = Things.mapOf(x, false, false, 1, 2, 3);
        members(x, map)[1] = 3;
        CHECK.due("sound with a key twice", x.sound(map), false);
    }

    private static void aKeyWithoutAValue() throws ReflectiveOperationException {
        for (int place = 0; place < 2; place++) {
            OrderedMaps x = new OrderedMaps();
            int map = Things.mapOf(x, false, false, 1, 2);
            values(x, map)[place] = null;
            CHECK.due("sound with no value at " + place, x.sound(map), false);
        }
    }

    private static void aStrictValueThatWasNotWorked() throws ReflectiveOperationException {
        for (int place = 0; place < 2; place++) {
            OrderedMaps x = new OrderedMaps();
            int strict = Things.mapOf(x, false, true, 1, 2);
            int lazy = Things.mapOf(x, false, false, 1, 2);
            Object value = values(x, strict)[place];
            field(value.getClass(), "isKnown").setBoolean(value, false);
            CHECK.due("sound of a strict map with one not worked at " + place, x.sound(strict), false);
            CHECK.due("sound of a lazy map with none worked", x.sound(lazy), true);
        }
    }

    private static void itemsOfAHeapOutOfOrder() throws ReflectiveOperationException {
        for (int place = 0; place < 2; place++) {
            OrderedMaps x = new OrderedMaps();
            int heap = Things.heapOf(x, 1, 2, 3);
            members(x, heap)[place] = 4;
            CHECK.due("sound with a larger item at " + place, x.sound(heap), false);
        }
        OrderedMaps x = new OrderedMaps();
        int heap = Things.heapOf(x, 1, 2, 3);
        members(x, heap)[2] = 2;
        CHECK.due("sound with two items alike", x.sound(heap), true);
    }

    private static void moreThanHundred() throws ReflectiveOperationException {
        OrderedMaps x = new OrderedMaps();
        int row = x.row();
        Constructor<?> maker = thing(x, row).getClass().getDeclaredConstructor(long[].class);
        maker.setAccessible(true);
        Object[] things = (Object[]) inside(x, "things");
        things[row] = maker.newInstance((Object) new long[Things.MOST_MEMBERS]);
        CHECK.due("sound with 100 items", x.sound(row), true);
        things[row] = maker.newInstance((Object) new long[Things.MOST_MEMBERS + 1]);
        CHECK.due("sound with 101 items", x.sound(row), false);
    }
}
