import java.util.ArrayList;
import java.util.Arrays;
import java.util.List;

/**
 * An object that the same calls make as often as it is wanted. So it can be looked at from all sides before and after
 * a call, and no single object is used for more than the 512 calls for which it is promised to answer.
 */
final class Scene {
    /** Makes things, by some 300 calls at most; answers the numbers of those that the acts need. */
    interface Start {
        int[] things(OrderedMaps x);
    }

    /** A call, with the numbers that the start answered; a boolean answer counts 1 or 0. */
    interface Act {
        long on(OrderedMaps x, int[] things);
    }

    /** A call to which a number is told that may be none of a thing. */
    interface OnNumber {
        long on(OrderedMaps x, int number);
    }

    static final int MAP = 0;
    static final int ROW = 1;
    static final int HEAP = 2;
    /** Calls that ask of all sorts take a thing of any. */
    static final int ANY = 3;

    /** The numbers of the things in unknown() that are of their sort: for the other argument of a call of two. */
    static final int KNOWN_MAP = 2;
    static final int KNOWN_ROW = 5;
    static final int KNOWN_HEAP = 8;

    private static final int LOOKS = 180;
    private static final int[] FAR = {-1, -2, Integer.MIN_VALUE, Things.MOST, Things.MOST + 1, Integer.MAX_VALUE};

    private final Check check;
    private final Start start;

    Scene(Check check, Start start) {
        this.check = check;
        this.start = start;
    }

    // ---- what may be asked of a call

    /** The call makes the thing with the next number, with these keys or items, and all old things stay as they are. */
    void takes(String call, Act act, long... members) {
        int old = played(null).told(0);
        check.due(call, answerOf(act), Integer.toString(old));
        check.due("what " + call + " makes", members(new Eyes(act), old), Arrays.toString(members));
        check.due("sound after " + call, played(act).sound(old), true);
        check.due("things after " + call, played(act).told(0), old + 1);
        check.due("the old things after " + call, lookAtThings(act, old), lookAtThings(null, old));
    }

    /** The call answers so (a number, or throws. and the exception's name), and all stays as it was. */
    void answers(String call, String want, Act act) {
        answersWorking(call, want, 0, act);
    }

    void answers(String call, long want, Act act) {
        answers(call, Long.toString(want), act);
    }

    /** As answers(), but values were worked so often, which failed: nothing of them stays. */
    void answersWorking(String call, String want, int workings, Act act) {
        int old = played(null).told(0);
        check.due(call, answerOf(act), want);
        check.due("worked by " + call, played(act).worked() - played(null).worked(), workings);
        check.due("counts after " + call, lookAtCounts(act), lookAtCounts(null));
        check.due("all things after " + call, lookAtThings(act, old), lookAtThings(null, old));
    }

    /** With 299 things the call makes one more, with 300 it is refused and leaves all as it was. */
    static void lastThing(Check check, String call, Start start, Act act) {
        new Scene(check, filled(start, Things.MOST - 1)).answersNext(call + " with 299 things", Things.MOST - 1, act);
        new Scene(check, filled(start, Things.MOST)).answers(call + " with 300 things", -4, act);
    }

    private void answersNext(String call, int number, Act act) {
        check.due(call, answerOf(act), Integer.toString(number));
        check.due("things after " + call, played(act).told(0), number + 1);
        check.due("sound after " + call, played(act).sound(number), true);
    }

    static Start filled(Start start, int things) {
        return x -> {
            int[] numbers = start.things(x);
            Things.fillTo(x, things);
            return numbers;
        };
    }

    /**
     * The call answers so to each number that is none of a thing of the sort, and all stays as it was: to a number
     * below 0, the next one, those of the other sorts, and those from 300 on; the same when there are 300 things, when
     * there are none, and when they have all been cleared.
     */
    static void unknown(Check check, String call, int sort, String want, OnNumber act) {
        Scene some = new Scene(check, Scene::oneOfEach);
        Scene full = new Scene(check, filled(Scene::oneOfEach, Things.MOST));
        for (int other = MAP; other <= HEAP && sort != ANY; other++) {
            int wrong = other;
            if (wrong != sort) {
                some.answers(call + " of sort " + wrong, want, (x, t) -> act.on(x, t[wrong]));
                full.answers(call + " of sort " + wrong + ", full", want, (x, t) -> act.on(x, t[wrong]));
            }
        }
        some.answers(call + " of the next number", want, (x, t) -> act.on(x, KNOWN_HEAP + 1));
        for (int number : FAR) {
            some.answers(call + " of " + number, want, (x, t) -> act.on(x, number));
            full.answers(call + " of " + number + ", full", want, (x, t) -> act.on(x, number));
        }
        Scene none = new Scene(check, x -> Things.numbers());
        Scene cleared = new Scene(check, Scene::cleared);
        for (int number = 0; number <= KNOWN_HEAP; number++) {
            int gone = number;
            none.answers(call + " of " + gone + ", no things", want, (x, t) -> act.on(x, gone));
            cleared.answers(call + " of " + gone + ", cleared", want, (x, t) -> act.on(x, gone));
        }
    }

    private static int[] cleared(OrderedMaps x) {
        oneOfEach(x);
        x.clear();
        return Things.numbers();
    }

    /** A map, a row and a heap, each with the members 0 and 1; their numbers are the known ones. */
    static int[] oneOfEach(OrderedMaps x) {
        int map = Things.mapOf(x, false, true, 0, 1);
        int row = Things.rowOf(x, 0, 1);
        int heap = Things.heapOf(x, 0, 1);
        return Things.numbers(map, row, heap);
    }

    // ---- looks

    private OrderedMaps played(Act act) {
        OrderedMaps x = new OrderedMaps();
        int[] things = start.things(x);
        if (act != null) {
            Check.answerOf(() -> act.on(x, things));
        }
        return x;
    }

    private String answerOf(Act act) {
        OrderedMaps x = new OrderedMaps();
        int[] things = start.things(x);
        return Check.answerOf(() -> act.on(x, things));
    }

    /** An object that is made anew when it has answered so many looks. */
    private final class Eyes {
        private final Act act;
        private OrderedMaps x;
        private int left;

        Eyes(Act act) {
            this.act = act;
        }

        OrderedMaps forCalls(int calls) {
            if (left < calls) {
                x = played(act);
                left = LOOKS;
            }
            left -= calls;
            return x;
        }
    }

    private String lookAtCounts(Act act) {
        OrderedMaps x = played(act);
        StringBuilder seen = new StringBuilder();
        for (int what = 0; what <= 3; what++) {
            seen.append(x.told(what)).append(' ');
        }
        return seen.append("next ").append(x.heap()).toString();
    }

    private String lookAtThings(Act act, int things) {
        Eyes eyes = new Eyes(act);
        List<String> seen = new ArrayList<>();
        for (int thing = 0; thing < things; thing++) {
            seen.add(members(eyes, thing) + values(eyes, thing) + eyes.forCalls(1).sound(thing));
        }
        return seen.toString();
    }

    private String members(Eyes eyes, int thing) {
        int size = Math.max(0, eyes.forCalls(1).size(thing));
        boolean isMap = eyes.forCalls(1).rank(thing, 0) >= 0;
        boolean isRow = eyes.forCalls(1).find(thing, 0, 0) != -1;
        if (!isMap && !isRow) {
            return heapItems(eyes.act, thing, size);
        }
        String[] seen = new String[size];
        for (int i = 0; i < size; i++) {
            int place = i;
            OrderedMaps x = eyes.forCalls(1);
            seen[i] = Check.answerOf(() -> isMap ? x.key(thing, place) : x.at(thing, place));
        }
        return Arrays.toString(seen);
    }

    /** Takes the heap apart; where there is no room to do so, its least item must be enough. */
    private String heapItems(Act act, int heap, int size) {
        OrderedMaps x = played(act);
        String[] seen = new String[size];
        int rest = heap;
        for (int i = 0; i < size; i++) {
            int asked = rest;
            seen[i] = Check.answerOf(() -> x.least(asked));
            rest = x.pop(rest);
        }
        return Arrays.toString(seen);
    }

    /** Each value of a map with whether it had to be worked for the look. */
    private String values(Eyes eyes, int thing) {
        StringBuilder seen = new StringBuilder();
        int size = eyes.forCalls(1).size(thing);
        for (int i = 0; i < size && eyes.forCalls(1).rank(thing, 0) >= 0; i++) {
            int place = i;
            OrderedMaps x = eyes.forCalls(4);
            int before = x.worked();
            seen.append(Check.answerOf(() -> x.get(thing, x.key(thing, place))));
            seen.append(x.worked() == before ? " known, " : " worked, ");
        }
        return seen.toString();
    }
}
