import java.lang.reflect.Method;
import java.util.ArrayList;
import java.util.HashMap;
import java.util.List;
import java.util.Map;

/** "Answers, of several the one named first: ..": their order, that they change nothing; and whose memory it all is. */
public final class AnswersTest {
    private static final int BAD = -1, NOT = -2, FULL = -3, STATE = -5, VOID = -2000000000;
    private static final int MOST = Integer.MAX_VALUE, LEAST = Integer.MIN_VALUE;
    private static final Map<String, Method> METHODS = new HashMap<>();
    private static boolean onFull;

    public static void main(String[] args) throws Exception {
        for (Method method : MaidsMemory.class.getDeclaredMethods()) {
            METHODS.put(method.getName(), method);
        }
        onFull = false;
        badStreets();
        badThoughts();
        badKnowledge();
        badDeeds();
        badShelves();
        notThere();
        hostRefusals();
        state();
        asked();
        onFull = true;
        full();
        asked();
        ownMemory();
        Due.end("AnswersTest");
    }

    // ---- a street on which each refusal but FULL can be had, and one that is full

    private static MaidsMemory street() {
        MaidsMemory x = new MaidsMemory();
        x.house();
        x.house();
        x.girl(20, 1);
        x.girl(9, 3);
        x.girl(30, 1);
        Due.law(x, "a-s/2");
        x.mend(1, 0, 4);
        x.mend(12, 0, 7);
        x.mend(1, 5, 40);
        x.hire(0, 0);
        x.hire(1, 1);
        Due.days(x, 5);
        x.image();
        Due.days(x, 4);
        x.mend(0, 1, 300);
        x.mend(2, 6, 77);
        x.undo();
        for (int letter : new int[] {'a', '/', '3'}) {
            x.feed(letter);
        }
        x.body(4);
        x.body(7);
        x.act(1, 1, 6);
        x.keep(1, 1);
        Due.row(x, 2, 0, 5, 1, 0, 0, 6);
        Due.row(x, 3, 1, 8, 0, 9, 0);
        Due.row(x, 4, 2, 1, 2, 3);
        Due.row(x, 5, 1, 4, 5, 6);
        return x;
    }

    private static MaidsMemory fullStreet() {
        MaidsMemory x = new MaidsMemory();
        for (int house = 0; house < 6; house++) {
            x.house();
            x.mend(10 * house + 1, 0, house);
        }
        for (int girl = 0; girl < 7; girl++) {
            x.girl(30 + girl, girl % 4);
            x.mend(girl, 4, girl % 6);
        }
        for (int i = 0; i < 50; i++) {
            x.body(i % 8);
        }
        for (int i = 0; i < 120; i++) {
            x.feed(i % 2 == 0 ? 'a' : i < 119 ? '%' : ';');
        }
        Due.row(x, 2, 0, 5, 1, 7, 0, 6);
        Due.days(x, 3);
        x.image();
        x.act(47, 3, 6);
        return x;
    }

    /** All that can be asked of it, then what only more calls show: the tape, changes, the image, the law. */
    private static List<Long> all(MaidsMemory x) {
        List<Long> all = new ArrayList<>();
        for (int what = 0; what < 6; what++) {
            all.add((long) x.count(what));
            all.add((long) x.led(what));
            all.add((long) x.trace(what));
            all.add((long) x.taken(what, 0));
            all.add((long) x.given(what));
            for (int i = 0; i < 6; i++) {
                all.add(x.element(what, i));
            }
        }
        for (int what = 0; what <= 8; what++) {
            for (int number = 0; number < 7; number++) {
                all.add((long) x.of(number, what));
            }
        }
        for (int girl = 0; girl < x.count(1); girl++) {
            for (int house = 0; house < x.count(0); house++) {
                all.add((long) x.has(girl, 10 * house + 1));
            }
        }
        for (int n = 1; n < 12; n += 2) {
            all.add((long) x.later(n, 0, 0));
            all.add((long) x.later(n, 1, 1));
            all.add((long) x.later(n, 1, 2));
        }
        for (int i = 0; i < 3; i++) {
            all.add((long) x.redo());
            all.add((long) x.of(2, 6));
        }
        for (int i = 0; i < 8; i++) {
            all.add((long) x.undo());
            all.add((long) x.of(0, 0));
        }
        all.add((long) x.law());
        all.add((long) x.later(3, 0, 0));
        all.add((long) x.back());
        all.add((long) x.of(0, 8));
        all.add((long) x.day());
        all.add((long) x.body(0));
        all.add((long) x.house());
        all.add((long) x.girl(5, 0));
        return all;
    }

    private static long answer(MaidsMemory x, String name, int... arguments) throws Exception {
        Method method = METHODS.get(name);
        Object[] each = new Object[arguments.length];
        for (int i = 0; i < each.length; i++) {
            boolean asLong = method.getParameterTypes()[i] == long.class;
            each[i] = asLong ? (Object) (long) arguments[i] : (Object) arguments[i];
        }
        return ((Number) method.invoke(x, each)).longValue();
    }

    /** A call is answered so, and the street is then as one that had no such call. */
    private static void is(long due, String name, int... arguments) throws Exception {
        String told = name + java.util.Arrays.toString(arguments);
        MaidsMemory x = onFull ? fullStreet() : street();
        Due.is(told, answer(x, name, arguments), due);
        Due.is(told + " once more", answer(x, name, arguments), due);
        Due.holds(told + " changed something", all(x).equals(all(onFull ? fullStreet() : street())));
    }

    private static void bad(String name, int[]... calls) throws Exception {
        for (int[] call : calls) {
            is(name.equals("mend") || name.equals("of") || name.equals("byTurns") ? VOID : BAD, name, call);
        }
    }

    private static int[] by(int... arguments) {
        return arguments;
    }

    // ---- BAD: no such number, or it is not as said; ahead of all others

    private static void badStreets() throws Exception {
        bad("girl", by(0, 0), by(100, 0), by(5, -1), by(5, 4), by(LEAST, LEAST), by(MOST, MOST));
        bad("girls", by(-1, 0, 1), by(6, 0, 1), by(2, 0, 0), by(2, 0, 8), by(2, 0, -1), by(2, 0, MOST));
        bad("girls", by(1, 0, 0), by(3, 0, 8), by(0, 0, 0), by(MOST, 0, 1), by(LEAST, 0, 1));
        bad("mend", by(0, 0, 10), by(0, 0, -1), by(20, 0, 1), by(4, 0, 1), by(-1, 0, 1), by(MOST, 0, 1), by(LEAST, 0, 1));
        bad("mend", by(0, 1, 10000), by(0, 1, -1), by(2, 1, 1), by(0, 2, 0), by(0, 2, 100), by(3, 2, 1), by(0, 3, 4));
        bad("mend", by(0, 3, -1), by(3, 3, 1), by(0, 4, 2), by(0, 4, -2), by(3, 4, 0), by(0, 5, 1000), by(0, 5, -1));
        bad("mend", by(4, 5, 1), by(0, 6, 1000), by(0, 6, -1), by(4, 6, 1), by(0, 7, 7), by(0, 7, -1), by(1, 7, 1));
        bad("mend", by(0, 8, 1), by(0, -1, 1), by(0, MOST, 1), by(0, LEAST, 1), by(20, 0, 10), by(-1, 7, -1));
        bad("of", by(20, 0), by(14, 0), by(2, 1), by(3, 2), by(3, 3), by(3, 4), by(4, 5), by(4, 6), by(1, 7), by(3, 8));
        bad("of", by(-1, 0), by(-1, 1), by(-1, 5), by(-1, 7), by(-1, 8), by(0, 9), by(0, -1), by(MOST, MOST), by(LEAST, 0));
        bad("has", by(3, 0), by(-1, 0), by(0, 20), by(0, 4), by(0, 14), by(0, -1), by(MOST, 0), by(0, MOST), by(0, LEAST));
        bad("feed", by(-1), by(256), by(MOST), by(LEAST));
    }

    private static void badThoughts() throws Exception {
        bad("later", by(-1, 0, 0), by(61, 0, 0), by(1, 3, 0), by(1, 2, 1), by(1, 4, 2), by(1, -1, 2), by(1, 0, 3), by(1, 0, -1));
        bad("knows", by(-1, 0, 0), by(61, 0, 0), by(1, 3, 0), by(1, -1, 0), by(1, 0, 20), by(1, 0, 4), by(1, 0, -1));
        bad("first", by(3, 0), by(-1, 0), by(2, 1), by(-1, 1), by(4, 2), by(-1, 2), by(0, 3), by(0, -1), by(MOST, 2));
        bad("week", by(2), by(-1), by(MOST), by(LEAST));
        bad("pack", by(2), by(-2), by(MOST), by(LEAST));
        bad("hires", by(2, 1, 0), by(-1, 1, 0), by(0, -1, 0), by(0, 61, 0), by(0, 1, 2), by(0, 1, -1));
        bad("spare", by(-1), by(61), by(MOST), by(LEAST));
    }

    private static void badKnowledge() throws Exception {
        bad("given", by(8), by(-1), by(MOST), by(LEAST));
        bad("fewest", by(2), by(-1), by(MOST), by(LEAST));
        bad("trains", by(3), by(-2), by(MOST), by(LEAST));
        // Ahead of -11 (shelf 0), -12 (shelves 1, 2, 4).
        bad("voices", by(-1, 0), by(6, 0), by(3, 3), by(3, -1), by(0, 3), by(1, -1), by(2, 3), by(5, 0), by(5, 2), by(4, 0));
        bad("judge", by(-1, 0), by(6, 0), by(2, 3), by(2, -1), by(0, 3), by(1, 3), by(3, -1), by(MOST, MOST));
        bad("bill", by(2, 1), by(-1, 1), by(0, -1), by(0, 10000), by(0, MOST), by(0, LEAST));
        bad("byTurns", by(0, 1, 0), by(11, 1, 0), by(2, 1, 0), by(20, 1, 0), by(-1, 1, 0), by(1, 0, 0), by(1, 5, 0));
        bad("byTurns", by(1, 1, 2), by(1, 1, -1), by(MOST, 1, 0), by(LEAST, 1, 0), by(1, MOST, 0), by(1, LEAST, 0));
        bad("drawn", by(1, 100, 0), by(1, 141, 0), by(1, 40, 0), by(1, 3101, 0), by(1, -101, 0), by(1, 101, 2), by(1, 101, -1));
    }

    private static void badDeeds() throws Exception {
        // Ahead of STATE: girls 0 and 1 are hired.
        bad("hire", by(3, 0), by(-1, 0), by(2, 2), by(2, -1), by(0, 2), by(1, -1), by(MOST, MOST), by(LEAST, LEAST));
        bad("letGo", by(3), by(-1), by(MOST), by(LEAST));
        bad("sweep", by(2), by(-1), by(MOST), by(LEAST));
        bad("led", by(6), by(-1), by(MOST), by(LEAST));
    }

    private static void badShelves() throws Exception {
        bad("body", by(8), by(-1), by(MOST), by(LEAST));
        bad("trace", by(8), by(-1), by(24), by(MOST), by(LEAST));
        bad("keep", by(-1, 0), by(6, 0), by(0, 2), by(0, -2), by(6, -1), by(MOST, MOST), by(LEAST, LEAST));
        // Ahead of -14.
        bad("row", by(-1, 0, 1), by(6, 0, 1), by(2, 5, 1), by(2, -1, 1), by(2, 0, 61), by(2, 5, -1), by(6, 0, -1), by(-1, 9, -1));
        // Ahead of -11, -12, -13.
        bad("put", by(-1, 0, 1), by(6, 0, 1), by(6, -1, 1), by(MOST, 0, 0), by(LEAST, LEAST, 0));
        bad("shift", by(-1, 0, 2, 0, 1), by(2, 0, 6, 0, 1), by(0, 0, 6, 0, 1), by(6, 0, 0, 0, 1), by(1, 0, -1, 0, 1));
        bad("shift", by(2, 9, -1, 0, 1), by(MOST, 0, 2, 0, 0), by(2, 0, LEAST, 0, -1));
        bad("taken", by(-1, 0), by(6, 0), by(1, 8), by(1, -1), by(0, 8), by(2, -1), by(MOST, LEAST));
        bad("count", by(6), by(-1), by(MOST), by(LEAST));
        int[][] none = {{-1, 0}, {6, 0}, {0, 0}, {1, 0}, {2, 5}, {2, -1}, {MOST, 0}, {2, MOST}, {2, LEAST}};
        for (int[] call : none) {
            is(Long.MIN_VALUE, "element", call);
        }
    }

    // ---- NOT, as told

    private static void notThere() throws Exception {
        is(NOT, "first", 2, 0);
        is(NOT, "first", 3, 2);
        is(NOT, "first", 0, 2);
        is(NOT, "pack", -1);
        is(NOT, "pack", 1);
        is(1, "whose");
        is(NOT, "voices", 3, 1);
        is(0, "voices", 3, 2);
        is(NOT, "trains", -1);
        is(NOT, "trains", 2);
        MaidsMemory x = new MaidsMemory();
        Due.is("whose()", x.whose(), NOT);
        Due.is("most()", x.most(), NOT);
        Due.is("fewest()", x.fewest(0), NOT);
        x.house();
        Due.is("hires()", x.hires(0, 1, 0), NOT);
        x.girl(5, 0);
        x.row(0, 0, 4);
        Due.is("judge()", x.judge(0, 0), NOT);
    }

    // ---- the host's refusals, in their order

    private static void hostRefusals() throws Exception {
        is(-12, "girls", 1, 0, 1);
        is(-12, "girls", 3, 0, 1);
        is(-12, "girls", 4, -1, 7);
        is(0, "girls", 0, 0, 7);
        is(0, "girls", 2, 5, 7);
        is(0, "girls", 2, 4, 7);
        is(0, "girls", 2, 2, 7);
        is(-11, "voices", 0, 0);
        is(-12, "voices", 1, 0);
        is(-11, "judge", 0, 0);
        is(-12, "judge", 1, 0);
        is(-12, "judge", 3, 0);
        is(-14, "row", 2, 0, -1);
        is(-14, "row", 0, 4, LEAST);
        is(-11, "put", 0, -1, 1);
        is(-12, "put", 1, -1, 1);
        is(-13, "put", 2, -1, 1);
        is(-13, "put", 2, 5, 1);
        is(-13, "put", 2, MOST, 1);
        is(-13, "put", 2, LEAST, 1);
        is(-11, "shift", 0, -1, 1, 0, 1);
        is(-11, "shift", 1, 0, 0, -1, 1);
        is(-12, "shift", 1, -1, 1, 0, 1);
        is(-12, "shift", 2, -1, 3, 0, 1);
        is(-12, "shift", 2, 0, 1, 0, -1);
        is(-13, "shift", 3, 0, 5, 0, 4);
        is(-13, "shift", 5, 1, 3, 0, 3);
        is(-13, "shift", 3, 0, 5, 0, -1);
        is(-13, "shift", 3, MOST, 5, MOST, MOST);
        is(-13, "shift", 3, LEAST, 5, LEAST, LEAST);
        is(0, "shift", 3, 4, 5, 3, 0);
        is(-11, "taken", 0, 0);
        is(-12, "taken", 1, 2);
        is(-12, "taken", 2, 0);
    }

    // ---- STATE, as told

    private static void state() throws Exception {
        is(STATE, "hire", 0, 0);
        is(STATE, "hire", 0, 1);
        is(STATE, "hire", 1, 0);
        is(STATE, "letGo", 2);
        MaidsMemory x = new MaidsMemory();
        Due.is("back()", x.back(), STATE);
        Due.is("undo()", x.undo(), STATE);
        Due.is("redo()", x.redo(), STATE);
    }

    // ---- FULL: BAD is named ahead of it

    private static void full() throws Exception {
        is(FULL, "house");
        is(FULL, "girl", 1, 0);
        is(FULL, "girl", 99, 3);
        is(BAD, "girl", 100, 3);
        is(BAD, "girl", 99, 4);
        is(0, "girls", 2, 0, 2);
        is(BAD, "girls", 2, 0, 8);
        is(FULL, "feed", 0);
        is(FULL, "feed", 255);
        is(BAD, "feed", 256);
        is(BAD, "feed", -1);
        is(FULL, "body", 0);
        is(FULL, "body", 7);
        is(BAD, "body", 8);
        is(BAD, "given", 128);
        is(BAD, "pack", 6);
        is(BAD, "trains", 7);
        is(BAD, "keep", 0, 50);
        is(VOID, "mend", 0, 4, 6);
    }

    /** What only asks changes nothing, either. */
    private static void asked() throws Exception {
        int[][] none = {{}};
        int[][] ones = {{-1}, {0}, {1}, {2}, {5}, {60}};
        int[][] twos = {{0, 0}, {1, 1}, {2, 0}, {0, 2}, {3, 1}, {1, 10}};
        int[][] threes = {{1, 1, 0}, {10, 1, 1}, {1, 4, 1}, {60, 1, 2}, {0, 20, 0}, {1, 3, 1}, {5, 310, 0}, {-7, 3040, 1}};
        asked(none, "whose", "most");
        asked(ones, "week", "pack", "spare", "given", "fewest", "trains", "led", "trace", "count");
        asked(twos, "of", "has", "first", "voices", "judge", "bill", "element", "taken");
        asked(threes, "later", "knows", "hires", "byTurns", "drawn");
    }

    private static void asked(int[][] calls, String... names) throws Exception {
        for (String name : names) {
            MaidsMemory x = onFull ? fullStreet() : street();
            for (int[] call : calls) {
                long first = answer(x, name, call);
                Due.is(name + " once more", answer(x, name, call), first);
            }
            Due.holds(name + " changed something", all(x).equals(all(onFull ? fullStreet() : street())));
        }
    }

    // ---- all memory is the class's own

    private static void ownMemory() {
        MaidsMemory x = street();
        MaidsMemory y = new MaidsMemory();
        y.house();
        y.girl(1, 0);
        y.mend(0, 5, 0);
        Due.law(y, "0");
        y.body(2);
        y.row(2, 4, 1);
        y.feed('s');
        y.image();
        Due.days(y, 9);
        y.later(60, 0, 0);
        y.act(0, 1, 1);
        y.undo();
        y.pack(-1);
        y.trains(-1);
        Due.holds("another street is another one", all(x).equals(all(street())));
        MaidsMemory z = new MaidsMemory();
        Due.is("a new one is without houses", z.house(), 0);
        Due.is("a new one is without girls", z.girl(9, 0), 0);
        z.mend(0, 0, 5);
        z.hire(0, 0);
        z.day();
        Due.is("a new one is without a law", z.of(0, 8), 5);
    }
}
