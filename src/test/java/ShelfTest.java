/** Promises 39 to 45: shelves, rows, what is refused there, and how many there are. */
public final class ShelfTest {
    private static final long NO_ELEMENT = Long.MIN_VALUE;

    public static void main(String[] args) {
        promise39();
        promise40();
        promise41();
        promise41Bits();
        promise42();
        promise43();
        promise43Overlapping();
        promise43Refused();
        promise43Order();
        promise44();
        promise45();
        Due.end("ShelfTest");
    }

    private static void promise39() {
        MaidsMemory x = new MaidsMemory();
        x.body(4);
        x.body(6);
        Due.is("39: keep(0, 0)", x.keep(0, 0), 1);
        Due.is("39: a grate", x.taken(0, 0), 4);
        Due.is("39: keep(0, 1)", x.keep(0, 1), 1);
        Due.is("39: another grate", x.taken(0, 0), 6);
        Due.is("39: keep(5, 1)", x.keep(5, 1), 1);
        Due.is("39: keep(0, -1)", x.keep(0, -1), 1);
        Due.is("39: nothing", x.taken(0, 0), -11);
        Due.is("39: the other shelf", x.taken(5, 0), 6);
        x.row(0, 2, 3);
        Due.is("39: in place of a row", x.keep(0, 0), 1);
        Due.is("39: no row any more", x.put(0, 0, 1), -12);
        x.row(0, 2, 3);
        x.keep(0, -1);
        Due.is("39: no row any more", x.put(0, 0, 1), -11);
        int[][] bad = {{-1, 0}, {6, 0}, {0, 2}, {0, -2}, {-1, -1}, {6, -1}, {0, Integer.MAX_VALUE}, {0, Integer.MIN_VALUE}};
        for (int[] call : bad) {
            Due.is("39: keep(" + call[0] + ", " + call[1] + ")", x.keep(call[0], call[1]), -1);
        }
        Due.is("39: nothing still", x.taken(0, 0), -11);
    }

    private static void promise40() {
        MaidsMemory x = new MaidsMemory();
        for (int sort = 0; sort <= 4; sort++) {
            Due.is("40: row()", x.row(sort, sort, 60), 1);
            Due.is("40: its first", x.element(sort, 0), 0);
            Due.is("40: its last", x.element(sort, 59), 0);
            Due.is("40: behind its last", x.element(sort, 60), NO_ELEMENT);
        }
        Due.is("40: an empty row", x.row(5, 0, 0), 1);
        Due.is("40: has no place", x.put(5, 0, 1), -13);
        x.put(2, 3, 9);
        Due.is("40: a new row", x.row(2, 2, 5), 1);
        Due.is("40: is of zeros", x.element(2, 3), 0);
        Due.is("40: no longer than it is", x.put(2, 5, 1), -13);
        Due.is("40: row(0, 0, -1)", x.row(0, 0, -1), -14);
        Due.is("40: row(0, 0, min)", x.row(0, 0, Integer.MIN_VALUE), -14);
        int[][] bad = {
            {0, 0, 61}, {0, -1, 5}, {0, 5, 5}, {-1, 0, 5}, {6, 0, 5}, {0, 5, -1}, {0, -1, -1}, {6, 0, -1}, {-1, 0, -1},
            {0, 0, Integer.MAX_VALUE}, {Integer.MAX_VALUE, 0, 0}, {0, Integer.MIN_VALUE, 0}};
        for (int[] call : bad) {
            String told = "40: row(" + call[0] + ", " + call[1] + ", " + call[2] + ")";
            Due.is(told, x.row(call[0], call[1], call[2]), -1);
        }
        Due.is("40: the row of before", x.put(0, 59, 1), 1);
        x.body(0);
        x.keep(1, 0);
        x.row(1, 0, 2);
        Due.is("40: in place of a grate", x.taken(1, 0), -12);
    }

    private static void promise41() {
        MaidsMemory x = new MaidsMemory();
        x.body(0);
        x.row(0, 2, 3);
        x.keep(2, 0);
        Due.is("41: put(0, 0, 7)", x.put(0, 0, 7), 1);
        Due.is("41: put(0, 2, 9)", x.put(0, 2, 9), 1);
        Due.is("41: its element", x.element(0, 0), 7);
        Due.is("41: another", x.element(0, 1), 0);
        Due.is("41: its element", x.element(0, 2), 9);
        Due.is("41: put(0, 3, 1)", x.put(0, 3, 1), -13);
        Due.is("41: put(0, -1, 1)", x.put(0, -1, 1), -13);
        Due.is("41: put(0, max, 1)", x.put(0, Integer.MAX_VALUE, 1), -13);
        Due.is("41: put(0, min, 1)", x.put(0, Integer.MIN_VALUE, 1), -13);
        Due.is("41: nothing there", x.put(1, 0, 1), -11);
        Due.is("41: nothing there, nor a place", x.put(1, -1, 1), -11);
        Due.is("41: a grate", x.put(2, 0, 1), -12);
        Due.is("41: a grate, no place", x.put(2, -1, 1), -12);
        Due.is("41: put(-1, 0, 1)", x.put(-1, 0, 1), -1);
        Due.is("41: put(6, 0, 1)", x.put(6, 0, 1), -1);
        Due.is("41: put(6, -1, 1)", x.put(6, -1, 1), -1);
    }

    private static void keeps(int sort, long v, long due) {
        MaidsMemory x = new MaidsMemory();
        x.row(3, sort, 2);
        Due.is("41: put(3, 1, " + v + ")", x.put(3, 1, v), 1);
        Due.is("42: element(3, 1) of sort " + sort + " by " + v, x.element(3, 1), due);
        Due.is("42: element(3, 0)", x.element(3, 0), 0);
    }

    private static void promise41Bits() {
        long[] values = {
            0, 1, -1, 127, 128, 255, 256, -128, -129, 32767, 32768, 65535, 65536, -32768, -32769, 2147483647L, 2147483648L,
            4294967295L, 4294967296L, -2147483648L, -2147483649L, Long.MAX_VALUE, Long.MIN_VALUE, 0x123456789abcdefL};
        for (long v : values) {
            keeps(0, v, (byte) v);
            keeps(1, v, (short) v);
            keeps(2, v, (int) v);
            keeps(3, v, v);
            keeps(4, v, v == 0 ? 0 : 1);
        }
    }

    private static void promise42() {
        MaidsMemory x = new MaidsMemory();
        x.body(0);
        x.keep(2, 0);
        x.row(0, 3, 2);
        Due.is("42: element(0, 0)", x.element(0, 0), 0);
        x.put(0, 1, -5);
        Due.is("42: element(0, 1)", x.element(0, 1), -5);
        int[][] none = {
            {-1, 0}, {6, 0}, {1, 0}, {2, 0}, {0, 2}, {0, -1}, {0, Integer.MAX_VALUE}, {0, Integer.MIN_VALUE},
            {Integer.MAX_VALUE, 0}, {Integer.MIN_VALUE, 0}};
        for (int[] call : none) {
            Due.is("42: element(" + call[0] + ", " + call[1] + ")", x.element(call[0], call[1]), NO_ELEMENT);
        }
    }

    private static void rowIs(MaidsMemory x, int shelf, long... due) {
        for (int i = 0; i < due.length; i++) {
            Due.is("43: element(" + shelf + ", " + i + ")", x.element(shelf, i), due[i]);
        }
        Due.is("43: its end", x.element(shelf, due.length), NO_ELEMENT);
    }

    private static void promise43() {
        MaidsMemory x = new MaidsMemory();
        Due.row(x, 0, 1, 1, 2, 3, 4, 5);
        Due.row(x, 1, 1, 10, 20, 30);
        Due.is("43: shift(0, 1, 1, 0, 2)", x.shift(0, 1, 1, 0, 2), 2);
        rowIs(x, 1, 2, 3, 30);
        rowIs(x, 0, 1, 2, 3, 4, 5);
        Due.is("43: to its end", x.shift(0, 4, 1, 2, 1), 1);
        rowIs(x, 1, 2, 3, 5);
        Due.is("43: all of it", x.shift(1, 0, 0, 0, 3), 3);
        rowIs(x, 0, 2, 3, 5, 4, 5);
        Due.is("43: none of it", x.shift(0, 0, 1, 0, 0), 0);
        Due.is("43: none of it, from its end to the end", x.shift(0, 5, 1, 3, 0), 0);
        rowIs(x, 1, 2, 3, 5);
        Due.row(x, 2, 4, 1, 0, 1);
        Due.row(x, 3, 4, 0, 0, 0);
        Due.is("43: booleans", x.shift(2, 0, 3, 0, 3), 3);
        rowIs(x, 3, 1, 0, 1);
        Due.row(x, 4, 3, Long.MIN_VALUE + 1, Long.MAX_VALUE);
        Due.is("43: longs", x.shift(4, 1, 4, 0, 1), 1);
        rowIs(x, 4, Long.MAX_VALUE, Long.MAX_VALUE);
    }

    private static void promise43Overlapping() {
        MaidsMemory x = new MaidsMemory();
        Due.row(x, 5, 2, 1, 2, 3, 4, 5);
        Due.is("43: up its own row", x.shift(5, 0, 5, 1, 4), 4);
        rowIs(x, 5, 1, 1, 2, 3, 4);
        Due.row(x, 5, 2, 1, 2, 3, 4, 5);
        Due.is("43: down its own row", x.shift(5, 2, 5, 0, 3), 3);
        rowIs(x, 5, 3, 4, 5, 4, 5);
        Due.is("43: where it is", x.shift(5, 0, 5, 0, 5), 5);
        rowIs(x, 5, 3, 4, 5, 4, 5);
    }

    private static void promise43Refused() {
        MaidsMemory x = new MaidsMemory();
        Due.row(x, 0, 1, 1, 2, 3, 4, 5);
        Due.row(x, 1, 1, 10, 20, 30);
        int max = Integer.MAX_VALUE;
        int min = Integer.MIN_VALUE;
        int[][] noPlace = {
            {0, 0, 1, 0, 4}, {0, 3, 1, 0, 3}, {0, 0, 1, 1, 3}, {0, 6, 1, 0, 0}, {0, 0, 1, 4, 0}, {0, -1, 1, 0, 1},
            {0, 0, 1, -1, 1}, {0, 0, 1, 0, -1}, {0, -1, 1, 0, 0}, {0, 0, 1, -1, 0}, {0, max, 1, 0, 1}, {0, 0, 1, max, 1},
            {0, 1, 1, 1, max}, {0, max, 1, max, max}, {0, min, 1, 0, 1}, {0, 0, 1, min, 1}, {0, 0, 1, 0, min},
            {0, max, 0, 0, max}, {0, min, 0, 0, max}, {0, 5, 0, 0, 1}};
        for (int[] call : noPlace) {
            shifts(x, call, -13);
        }
        int[][] bad = {{-1, 0, 1, 0, 1}, {6, 0, 1, 0, 1}, {0, 0, -1, 0, 1}, {0, 0, 6, 0, 1}, {6, 0, 5, 0, 1}, {5, 0, 6, 0, 1}};
        for (int[] call : bad) {
            shifts(x, call, -1);
        }
        rowIs(x, 0, 1, 2, 3, 4, 5);
        rowIs(x, 1, 10, 20, 30);
    }

    private static void shifts(MaidsMemory x, int[] call, int due) {
        String told = "43: shift(" + call[0] + ", " + call[1] + ", " + call[2] + ", " + call[3] + ", " + call[4] + ")";
        Due.is(told, x.shift(call[0], call[1], call[2], call[3], call[4]), due);
    }

    private static void promise43Order() {
        MaidsMemory x = new MaidsMemory();
        x.body(0);
        x.body(0);
        x.keep(0, 0);
        x.keep(1, 0);
        x.row(2, 1, 3);
        x.row(3, 2, 3);
        x.row(4, 1, 3);
        shifts(x, new int[] {2, 0, 3, 0, 1}, -12);
        shifts(x, new int[] {2, 9, 3, 0, 1}, -12);
        shifts(x, new int[] {0, 0, 2, 0, 1}, -12);
        shifts(x, new int[] {2, 0, 0, 0, 1}, -12);
        shifts(x, new int[] {0, 0, 1, 0, 1}, -12);
        shifts(x, new int[] {0, 0, 0, 0, 0}, -12);
        shifts(x, new int[] {5, 0, 2, 0, 1}, -11);
        shifts(x, new int[] {2, 0, 5, 0, 1}, -11);
        shifts(x, new int[] {5, 0, 5, 0, 0}, -11);
        shifts(x, new int[] {0, 0, 5, 0, 1}, -11);
        shifts(x, new int[] {5, -1, 0, 0, 1}, -11);
        shifts(x, new int[] {2, 3, 4, 3, 0}, 0);
    }

    private static void promise44() {
        MaidsMemory x = new MaidsMemory();
        int[][] under = {
            {0, 0}, {1, 0}, {1, 1}, {2, 0}, {2, 2}, {3, 0}, {3, 2}, {3, 3}, {4, 0}, {4, 1}, {4, 4}, {5, 0}, {5, 2}, {5, 3},
            {5, 5}, {6, 0}, {6, 6}, {7, 0}, {7, 1}, {7, 4}, {7, 7}};
        boolean[][] isUnder = new boolean[8][8];
        for (int[] pair : under) {
            isUnder[pair[0]][pair[1]] = true;
        }
        for (int kind = 0; kind < 8; kind++) {
            x.keep(1, x.body(kind));
            for (int k = 0; k < 8; k++) {
                Due.is("44: kind " + kind + " for " + k, x.taken(1, k), isUnder[kind][k] ? kind : -12);
            }
        }
        Due.is("44: taken(-1, 0)", x.taken(-1, 0), -1);
        Due.is("44: taken(6, 0)", x.taken(6, 0), -1);
        Due.is("44: taken(1, -1)", x.taken(1, -1), -1);
        Due.is("44: taken(1, 8)", x.taken(1, 8), -1);
        Due.is("44: nothing there", x.taken(0, 0), -11);
        Due.is("44: nothing there, BAD is named first", x.taken(0, 8), -1);
        for (int sort = 0; sort <= 4; sort++) {
            x.row(0, sort, 3);
            Due.is("44: a row", x.taken(0, 0), -12);
            Due.is("44: a row", x.taken(0, 7), -12);
        }
    }

    private static void promise45() {
        MaidsMemory x = new MaidsMemory();
        x.house();
        x.house();
        x.girl(5, 0);
        x.girl(5, 0);
        x.girl(5, 0);
        for (int i = 0; i < 5; i++) {
            x.feed(97);
        }
        for (int i = 1; i <= 4; i++) {
            x.mend(0, 6, i);
        }
        for (int i = 0; i < 6; i++) {
            x.body(7);
        }
        x.act(0, 3, 0);
        int[] due = {2, 3, 5, 4, 6, 14};
        for (int what = 0; what < 6; what++) {
            Due.is("45: count(" + what + ")", x.count(what), due[what]);
        }
        x.undo();
        Due.is("45: count(3)", x.count(3), 3);
        x.redo();
        Due.is("45: count(3)", x.count(3), 4);
        x.law();
        Due.is("45: count(2)", x.count(2), 0);
        Due.is("45: count(-1)", x.count(-1), -1);
        Due.is("45: count(6)", x.count(6), -1);
        Due.is("45: count(max)", x.count(Integer.MAX_VALUE), -1);
        Due.is("45: count(min)", x.count(Integer.MIN_VALUE), -1);
    }
}
