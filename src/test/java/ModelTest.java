import java.lang.reflect.InvocationTargetException;
import java.lang.reflect.Method;
import java.util.Arrays;
import java.util.HashMap;
import java.util.Map;

/** Long runs of calls on the program and on the model of the document: all promises, answer by answer. */
public final class ModelTest {
    private static final int RUNS = 2000;
    private static final int ACTS = 380;
    /** Acts, looks and the last question make up the 512 calls of an object: what later ones answer is free. */
    private static final int LOOKS = 131;

    /**
     * Behind a name its arguments: m, r, h a map, a row, a heap, a any thing, k a key, p a place, s a side, c a small
     * number, i a long, d a divisor, t a truth value. The first call of a sort makes an empty thing, the second and
     * the third make large ones.
     */
    private static final String[][] CALLS = {
        {"map tt", "put mkid", "union mm", "drop mk", "both mm", "less mm", "part mks", "kept mcc", "has mk", "get mk",
            "key mp", "rank mk", "fold mkk"},
        {"row", "add rti", "join rr", "cut rps", "replace rpi", "turned r", "at rp", "find rpi"},
        {"heap", "push hi", "meld hh", "pop h", "least h"},
        {"size a", "same aa", "sound a", "worked", "told c"},
    };
    private static final int ALL = 3;
    private static final long[] EDGES = {
        0, 1, -1, 2, -2, Long.MIN_VALUE, Long.MAX_VALUE, Long.MIN_VALUE + 1, Long.MAX_VALUE - 1, 3, 1L << 32,
    };

    private static final Check CHECK = new Check("ModelTest");
    private static final Map<String, Method> OF_PROGRAM = methodsOf(OrderedMaps.class);
    private static final Map<String, Method> OF_MODEL = methodsOf(Model.class);

    private final OrderedMaps program = new OrderedMaps();
    private final Model model = new Model();
    private final int run;
    private long seed;
    private int last;

    private ModelTest(int run) {
        this.run = run;
        this.seed = run * 7919L + 17;
    }

    public static void main(String[] args) {
        for (int run = 0; run < RUNS; run++) {
            new ModelTest(run).play();
        }
        CHECK.end();
    }

    private static Map<String, Method> methodsOf(Class<?> type) {
        Map<String, Method> methods = new HashMap<>();
        for (Method method : type.getDeclaredMethods()) {
            methods.putIfAbsent(method.getName(), method);
        }
        return methods;
    }

    private void play() {
        for (int i = 0; i < ACTS; i++) {
            act();
        }
        for (int i = 0; i < LOOKS; i++) {
            lookAtAnOldThing();
        }
        ask("worked");
    }

    private void act() {
        String[] call = pickCall().split(" ");
        Object[] arguments = new Object[call.length < 2 ? 0 : call[1].length()];
        for (int k = 0; k < arguments.length; k++) {
            arguments[k] = pickArgument(call[1].charAt(k));
        }
        ask(call[0], arguments);
    }

    /** Whatever came after it, an old thing must be what it was when it was made. */
    private void lookAtAnOldThing() {
        int thing = below(model.told(0) + 1);
        int place = below(Math.max(1, model.size(thing)));
        switch (model.sortOf(thing)) {
            case 1: ask("key", thing, place); break;
            case 2: ask("at", thing, place); break;
            default: ask("least", thing); break;
        }
    }

    private void ask(String call, Object... arguments) {
        String want = answer(OF_MODEL, model, call, arguments);
        String got = answer(OF_PROGRAM, program, call, arguments);
        CHECK.due("run " + run + ": " + call + Arrays.toString(arguments), got, want);
    }

    private static String answer(Map<String, Method> methods, Object of, String call, Object[] arguments) {
        try {
            return String.valueOf(methods.get(call).invoke(of, arguments));
        } catch (InvocationTargetException thrown) {
            return Check.nameOf(thrown.getCause());
        } catch (IllegalAccessException shut) {
            return "not to be called";
        }
    }

    // ---- what is called: three runs of four keep to one sort; some make large things, some as many as there may be

    private String pickCall() {
        if (!grows() && !fills() && below(600) == 0) {
            return "clear";
        }
        int sort = run % 4 == ALL ? below(ALL) : run % 4;
        if (model.told(sort + 1) == 0 || (fills() ? below(3) > 0 : below(50) == 0)) {
            return CALLS[sort][0];
        }
        if (below(8) == 0) {
            return pickOf(ALL, 0);
        }
        if (grows() && below(10) > 0) {
            return CALLS[sort][below(8) == 0 ? 2 : 1];
        }
        return pickOf(sort, below(3) == 0 ? 0 : 1);
    }

    private boolean grows() {
        return run / 4 % 4 == 0;
    }

    private boolean fills() {
        return run / 4 % 4 == 1;
    }

    private String pickOf(int sort, int from) {
        return CALLS[sort][from + below(CALLS[sort].length - from)];
    }

    private Object pickArgument(char kind) {
        switch (kind) {
            case 'm': return pickThing(1);
            case 'r': return pickThing(2);
            case 'h': return pickThing(3);
            case 'a': return pickThing(1 + below(ALL));
            case 'k': return pickKey();
            case 'p': return pickPlace();
            case 's': return below(12) == 0 ? below(5) - 2 : below(2);
            case 'c': return below(9) - 2;
            case 'd': return below(6) == 0 ? 0L : pickLong();
            case 't': return below(4) == 0;
            default: return pickLong();
        }
    }

    private int pickThing(int sort) {
        int things = model.told(0);
        int picked = below(things + 4) - 2;
        for (int i = 0; i < 8 && below(20) > 0; i++) {
            int other = below(3) == 0 ? below(things + 1) : things - 1 - below(6);
            boolean fits = model.sortOf(other) == sort;
            if (fits && (model.sortOf(picked) != sort || model.size(other) >= model.size(picked))) {
                picked = other;
            }
        }
        last = picked;
        return picked;
    }

    /** A key of the map that was picked last, or any. */
    private long pickKey() {
        if (model.sortOf(last) != 1 || model.size(last) == 0 || below(grows() ? 8 : 2) > 0) {
            return pickLong();
        }
        return model.key(last, below(model.size(last)));
    }

    private int pickPlace() {
        return below(30) == 0 ? (int) EDGES[below(EDGES.length)] : below(Math.max(0, model.size(last)) + 3) - 1;
    }

    private long pickLong() {
        if (below(8) == 0) {
            return EDGES[below(EDGES.length)];
        }
        return grows() || run % 3 == 0 ? below(900) - 400 : below(30) - 10;
    }

    private int below(int bound) {
        seed = seed * 6364136223846793005L + 1442695040888963407L;
        return (int) ((seed >>> 33) % bound);
    }
}
