/** Promises 1 to 7: a new object, houses, girls, numbers told and asked. */
public final class StreetTest {
    private static final int VOID = -2000000000;

    public static void main(String[] args) {
        promise1();
        promise2();
        promise3();
        promise4();
        promise4Ends();
        promise5();
        promise5Limits();
        promise6();
        promise7();
        Due.end("StreetTest");
    }

    private static void promise1() {
        MaidsMemory other = new MaidsMemory();
        other.house();
        other.girl(5, 1);
        other.mend(0, 5, 7);
        other.feed(97);
        other.body(3);
        other.row(0, 2, 4);
        other.day();
        other.image();
        MaidsMemory x = new MaidsMemory();
        for (int what = 0; what <= 5; what++) {
            Due.is("1: count(" + what + ")", x.count(what), 0);
            Due.is("1: led(" + what + ")", x.led(what), 0);
        }
        for (int hill = 0; hill < 4; hill++) {
            Due.is("1: of(hill, 5)", x.of(hill, 5), 100);
            Due.is("1: of(hill, 6)", x.of(hill, 6), 0);
        }
        for (int shelf = 0; shelf < 6; shelf++) {
            Due.is("1: taken(shelf, 0)", x.taken(shelf, 0), -11);
        }
        Due.is("1: of(0, 7)", x.of(0, 7), 0);
        Due.is("1: back()", x.back(), -5);
        Due.is("1: undo()", x.undo(), -5);
        Due.is("1: redo()", x.redo(), -5);
    }

    private static void promise2() {
        MaidsMemory x = new MaidsMemory();
        for (int i = 0; i < 6; i++) {
            Due.is("2: house()", x.house(), i);
            Due.is("2: clutter at first", x.of(i, 1), 0);
            for (int sort = 0; sort < 4; sort++) {
                Due.is("2: puts at first", x.of(10 * i + sort, 0), 0);
            }
        }
        Due.is("2: house() when full", x.house(), -3);
        Due.is("2: house() when full", x.house(), -3);
        Due.is("2: count(0)", x.count(0), 6);
    }

    private static void promise3() {
        MaidsMemory x = new MaidsMemory();
        Due.is("3: girl(0, 0)", x.girl(0, 0), -1);
        Due.is("3: girl(100, 0)", x.girl(100, 0), -1);
        Due.is("3: girl(-1, 0)", x.girl(-1, 0), -1);
        Due.is("3: girl(50, -1)", x.girl(50, -1), -1);
        Due.is("3: girl(50, 4)", x.girl(50, 4), -1);
        Due.is("3: girl(min, min)", x.girl(Integer.MIN_VALUE, Integer.MIN_VALUE), -1);
        Due.is("3: girl(max, max)", x.girl(Integer.MAX_VALUE, Integer.MAX_VALUE), -1);
        Due.is("3: none came", x.count(1), 0);
        Due.is("3: girl(1, 0)", x.girl(1, 0), 0);
        Due.is("3: girl(99, 3)", x.girl(99, 3), 1);
        Due.is("3: of(1, 2)", x.of(1, 2), 99);
        Due.is("3: of(1, 3)", x.of(1, 3), 3);
        Due.is("3: of(1, 4)", x.of(1, 4), -1);
        Due.is("3: of(1, 8)", x.of(1, 8), 0);
        for (int i = 2; i < 7; i++) {
            Due.is("3: girl(10, 1)", x.girl(10, 1), i);
        }
        Due.is("3: girl(10, 1) when full", x.girl(10, 1), -3);
        Due.is("3: girl(0, 1) when full: BAD is named first", x.girl(0, 1), -1);
        Due.is("3: count(1)", x.count(1), 7);
    }

    private static void promise4() {
        MaidsMemory x = new MaidsMemory();
        Due.row(x, 0, 0, 5, 20, 1, 30, 2, 40, 3);
        Due.is("4: girls(0, 1, 2)", x.girls(0, 1, 2), 2);
        Due.is("4: ROOM", x.of(0, 2), 20);
        Due.is("4: HILL", x.of(0, 3), 1);
        Due.is("4: ROOM", x.of(1, 2), 30);
        Due.is("4: HILL", x.of(1, 3), 2);
        Due.is("4: HIRED", x.of(1, 4), -1);
        Due.is("4: n of them alone", x.count(1), 2);
        Due.is("4: girls(-1, 0, 1)", x.girls(-1, 0, 1), -1);
        Due.is("4: girls(6, 0, 1)", x.girls(6, 0, 1), -1);
        Due.is("4: girls(0, 1, 0)", x.girls(0, 1, 0), -1);
        Due.is("4: girls(0, 1, 8)", x.girls(0, 1, 8), -1);
        Due.is("4: girls(0, 1, -1)", x.girls(0, 1, -1), -1);
        Due.is("4: a missing row", x.girls(1, 0, 1), 0);
        x.row(1, 1, 4);
        Due.is("4: a row of shorts", x.girls(1, 0, 1), -12);
        Due.is("4: BAD is named first", x.girls(1, 0, 9), -1);
        x.row(1, 4, 4);
        Due.is("4: a row of booleans", x.girls(1, 0, 1), -12);
        x.body(0);
        x.keep(2, 0);
        Due.is("4: a grate", x.girls(2, 0, 1), -12);
        Due.is("4: count(1)", x.count(1), 2);
    }

    private static void promise4Ends() {
        MaidsMemory x = new MaidsMemory();
        Due.row(x, 0, 0, 10, 0, 11, 1, 12);
        Due.is("4: ends within a two", x.girls(0, 0, 5), 2);
        Due.is("4: ends at once", x.girls(0, 5, 1), 0);
        Due.is("4: ends within the first two", x.girls(0, 4, 1), 0);
        Due.is("4: far behind its end", x.girls(0, Integer.MAX_VALUE, 1), 0);
        Due.is("4: ahead of its begin", x.girls(0, -1, 1), 0);
        Due.is("4: far ahead of its begin", x.girls(0, Integer.MIN_VALUE, 7), 0);
        x.row(1, 0, 0);
        Due.is("4: an empty row", x.girls(1, 0, 7), 0);
        Due.is("4: two came", x.count(1), 2);
        Due.row(x, 2, 0, 10, 3, 10, 4, 10, 0);
        Due.is("4: one whose HILL is not so", x.girls(2, 0, 3), 1);
        Due.row(x, 2, 0, 10, 0, 100, 0, 10, 0);
        Due.is("4: one whose ROOM is not so", x.girls(2, 0, 3), 1);
        Due.row(x, 2, 0, -56, 0);
        Due.is("4: ROOM below 0", x.girls(2, 0, 1), 0);
        x.row(3, 0, 60);
        for (int i = 0; i < 60; i += 2) {
            x.put(3, i, 7);
        }
        Due.is("4: the last two of a row", x.girls(3, 58, 7), 1);
        Due.is("4: girls are full", x.girls(3, 0, 7), 2);
        Due.is("4: full already", x.girls(3, 0, 1), 0);
        Due.is("4: count(1)", x.count(1), 7);
    }

    private static void promise5() {
        MaidsMemory x = new MaidsMemory();
        x.house();
        x.house();
        x.girl(20, 2);
        Due.is("5: PUTS", x.mend(13, 0, 9), 0);
        Due.is("5: PUTS", x.mend(13, 0, 4), 9);
        Due.is("5: PUTS of another", x.of(12, 0), 0);
        Due.is("5: CLUTTER", x.mend(1, 1, 9999), 0);
        Due.is("5: CLUTTER", x.mend(1, 1, 0), 9999);
        Due.is("5: ROOM", x.mend(0, 2, 99), 20);
        Due.is("5: ROOM", x.mend(0, 2, 1), 99);
        Due.is("5: HILL", x.mend(0, 3, 3), 2);
        Due.is("5: HILL", x.mend(0, 3, 0), 3);
        Due.is("5: HIRED", x.mend(0, 4, 1), -1);
        Due.is("5: HIRED", x.mend(0, 4, -1), 1);
        Due.is("5: HOLDS", x.mend(3, 5, 999), 100);
        Due.is("5: HOLDS", x.mend(3, 5, 0), 999);
        Due.is("5: HEARD", x.mend(2, 6, 999), 0);
        Due.is("5: HEARD", x.mend(2, 6, 5), 999);
        Due.is("5: WEEKDAY", x.mend(0, 7, 6), 0);
        Due.is("5: WEEKDAY", x.mend(0, 7, 6), 6);
        Due.is("5: how often one was HIRED in deed", x.led(4), 0);
        Due.is("5: CLUTTER that did not come", x.led(2), 0);
    }

    private static void promise5Limits() {
        MaidsMemory x = new MaidsMemory();
        x.house();
        x.girl(20, 2);
        int[][] bad = {
            {0, 0, 10}, {0, 0, -1}, {4, 0, 1}, {10, 0, 1}, {-1, 0, 1}, {-10, 0, 1}, {Integer.MIN_VALUE, 0, 1},
            {0, 1, -1}, {0, 1, 10000}, {1, 1, 0}, {-1, 1, 0}, {0, 2, 0}, {0, 2, 100}, {1, 2, 5}, {-1, 2, 5},
            {0, 3, -1}, {0, 3, 4}, {1, 3, 1}, {0, 4, -2}, {0, 4, 1}, {1, 4, 0}, {0, 5, -1}, {0, 5, 1000}, {4, 5, 1},
            {-1, 5, 1}, {0, 6, -1}, {0, 6, 1000}, {4, 6, 1}, {0, 7, -1}, {0, 7, 7}, {1, 7, 1}, {-1, 7, 1},
            {0, 8, 1}, {0, -1, 1}, {0, Integer.MAX_VALUE, 1}, {0, Integer.MIN_VALUE, 0}, {Integer.MAX_VALUE, 4, 0}};
        for (int[] call : bad) {
            String told = "5: mend(" + call[0] + ", " + call[1] + ", " + call[2] + ")";
            Due.is(told, x.mend(call[0], call[1], call[2]), VOID);
        }
        Due.is("5: nothing changed", x.count(3), 0);
        Due.is("5: PUTS", x.of(0, 0), 0);
        Due.is("5: ROOM", x.of(0, 2), 20);
    }

    private static void promise6() {
        MaidsMemory x = new MaidsMemory();
        x.house();
        x.girl(20, 2);
        x.mend(3, 0, 7);
        x.mend(0, 1, 55);
        x.mend(0, 4, 0);
        x.mend(1, 5, 77);
        x.mend(1, 6, 11);
        x.mend(0, 7, 3);
        x.day();
        int[][] due = {
            {3, 0, 7}, {2, 0, 0}, {0, 1, 55}, {0, 2, 20}, {0, 3, 2}, {0, 4, 0}, {1, 5, 77}, {1, 6, 11}, {0, 7, 4},
            {0, 8, 7}, {0, 5, 100}, {3, 6, 0}};
        for (int[] call : due) {
            Due.is("6: of(" + call[0] + ", " + call[1] + ")", x.of(call[0], call[1]), call[2]);
        }
        int[][] bad = {
            {4, 0}, {10, 0}, {-1, 0}, {1, 1}, {-1, 1}, {1, 2}, {1, 3}, {1, 4}, {-1, 4}, {4, 5}, {4, 6}, {-1, 6},
            {1, 7}, {-1, 7}, {1, 8}, {-1, 8}, {0, 9}, {0, -1}, {Integer.MAX_VALUE, 0}, {0, Integer.MIN_VALUE}};
        for (int[] call : bad) {
            Due.is("6: of(" + call[0] + ", " + call[1] + ")", x.of(call[0], call[1]), VOID);
        }
    }

    private static void promise7() {
        MaidsMemory x = new MaidsMemory();
        x.house();
        x.house();
        x.girl(9, 0);
        x.mend(10, 0, 2);
        x.mend(13, 0, 5);
        x.hire(0, 1);
        x.day();
        Due.is("7: has(0, 10)", x.has(0, 10), 2);
        Due.is("7: has(0, 13)", x.has(0, 13), 5);
        Due.is("7: has(0, 0)", x.has(0, 0), 0);
        x.day();
        Due.is("7: has(0, 10): sorts in turn", x.has(0, 10), 4);
        Due.is("7: has(0, 13): no more than ROOM", x.has(0, 13), 5);
        int[][] bad = {{1, 10}, {-1, 10}, {0, 4}, {0, 14}, {0, 20}, {0, -1}, {0, -10}, {0, 9}, {7, 0}};
        for (int[] call : bad) {
            Due.is("7: has(" + call[0] + ", " + call[1] + ")", x.has(call[0], call[1]), -1);
        }
    }
}
