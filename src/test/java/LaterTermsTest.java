/** The Terms 4 and 5, sentence by sentence: each that names a boundary, by runs at it and on both sides of it. */
public final class LaterTermsTest {
    private static final int VOID = -2000000000;

    public static void main(String[] args) {
        drawnMonths();
        drawnSeeds();
        drawnOnAFullStreet();
        drawnMoreThanNow();
        ledAll();
        sameNumberIsNoChange();
        latestFirst();
        noOtherBehind();
        fortyAreKept();
        deedsAreNone();
        imageKeeps();
        imageOfNothing();
        cameSince();
        bodies();
        actsWrap();
        trace();
        shelves();
        rowsFromNothing();
        lowestBits();
        nothingThere();
        anotherKind();
        noPlace();
        asTheyAllWere();
        sizeBelowNothing();
        girlsFromRow();
        girlsFull();
        Due.end("LaterTermsTest");
    }

    // ---- Terms 4

    /** n months (1 .. 30) of m (1 .. 40) days. */
    private static void drawnMonths() {
        MaidsMemory x = new MaidsMemory();
        x.house();
        x.girl(1, 0);
        x.hire(0, 0);
        Due.law(x, "1");
        x.mend(0, 5, 0);
        x.mend(0, 0, 1);
        x.day();
        for (int n = 0; n <= 32; n++) {
            for (int m = 0; m <= 45; m += 5) {
                boolean is = n >= 1 && n <= 30 && m >= 1 && m <= 40;
                Due.is("drawn(0, " + n + " months of " + m + ", 1)", x.drawn(0, 100 * n + m, 1), is ? n : -1);
            }
        }
        Due.is("30 months of 40", x.drawn(0, 3040, 1), 30);
        Due.is("30 months of 41", x.drawn(0, 3041, 1), -1);
        Due.is("31 months of 1", x.drawn(0, 3101, 1), -1);
        Due.is("a month of 1", x.drawn(0, 101, 1), 1);
        Due.is("a month of 99", x.drawn(0, 199, 1), -1);
        Due.is("no month", x.drawn(0, 1, 1), -1);
        Due.is("below 0", x.drawn(0, -3040, 1), -1);
        Due.is("what 2", x.drawn(0, 101, 2), -1);
        Due.is("what -1", x.drawn(0, 101, -1), -1);
    }

    private static int draw(int z) {
        return z * 1103515245 + 12345;
    }

    private static int puts(int z) {
        return (int) ((z & 0xffffffffL) >> 8) % 10;
    }

    /** z = z * 1103515245 + 12345 (an int), any SEED. */
    private static void drawnSeeds() {
        MaidsMemory x = new MaidsMemory();
        x.house();
        int[] seeds = {0, 1, -1, Integer.MAX_VALUE, Integer.MIN_VALUE, 255, 256, -256, 1103515245};
        for (int seed : seeds) {
            int z = seed;
            int all = 0;
            for (int i = 0; i < 8; i++) {
                z = draw(z);
                all += puts(z);
                if (i == 3) {
                    Due.is("a day by " + seed, x.drawn(seed, 101, 0), all);
                }
            }
            Due.is("two days by " + seed, x.drawn(seed, 102, 0), all);
            Due.is("two months of a day by " + seed, x.drawn(seed, 201, 0), all);
        }
    }

    /** Ahead of each HOUSE and SORT, for those that are there alone. */
    private static void drawnOnAFullStreet() {
        MaidsMemory x = new MaidsMemory();
        for (int house = 0; house < 6; house++) {
            Due.is("house by house", x.house(), house);
            int z = 77;
            int all = 0;
            for (int i = 0; i < 3 * 4 * (house + 1); i++) {
                z = draw(z);
                all += puts(z);
            }
            Due.is("three days", x.drawn(77, 103, 0), all);
            Due.is("three months of a day", x.drawn(77, 301, 0), all);
        }
        for (int girl = 0; girl < 7; girl++) {
            x.girl(1, 0);
            x.mend(girl, 4, girl % 6);
        }
        x.mend(0, 5, 0);
        Due.is("all are full at each end", x.drawn(77, 3030, 1), 210);
        int z = 77;
        int all = 0;
        for (int i = 0; i < 24; i++) {
            z = draw(z);
            all += puts(z);
        }
        x.mend(0, 4, -1);
        x.mend(6, 4, -1);
        // Of what five houses put by on the first day each girl takes one.
        Due.is("as much as ROOM", x.drawn(77, 101, 1), 5);
        Due.is("what they took is no CLUTTER", x.drawn(77, 101, 0), all - 5);
        for (int girl = 0; girl < 7; girl++) {
            x.mend(girl, 2, 99);
        }
        Due.is("one day does not fill them", x.drawn(77, 101, 1), 0);
    }

    /** CLUTTER of all at the ends more than now. */
    private static void drawnMoreThanNow() {
        MaidsMemory x = new MaidsMemory();
        x.house();
        x.house();
        x.mend(0, 1, 9999);
        x.mend(1, 1, 9999);
        Due.is("there is no more", x.drawn(4, 3040, 0), 0);
        x.mend(1, 1, 9998);
        Due.is("one more at each end", x.drawn(4, 3040, 0), 30);
        Due.is("in thought alone", x.of(1, 1), 9998);
        Due.is("in thought alone", x.of(0, 7), 0);
        Due.is("in thought alone", x.led(2), 0);
    }

    /** LED, on a street that is full; numbers of mend() are in none of it. */
    private static void ledAll() {
        MaidsMemory x = new MaidsMemory();
        for (int house = 0; house < 6; house++) {
            x.house();
            x.mend(10 * house, 0, 9);
            x.mend(house, 1, 9990);
        }
        for (int girl = 0; girl < 7; girl++) {
            x.girl(20, girl % 4);
            x.mend(girl, 4, girl % 6);
        }
        x.mend(0, 6, 95);
        for (int what = 0; what < 6; what++) {
            Due.is("nothing led by mend(): " + what, x.led(what), 0);
        }
        for (int day = 0; day < 7; day++) {
            x.day();
        }
        Due.is("days", x.led(0), 7);
        Due.is("put by: 20 of each girl", x.led(1), 140);
        // 63 of each house in a week, less 20 (house 0: 40), but no more than 9.
        Due.is("what came to be CLUTTER", x.led(2), 54);
        Due.is("what was told to hills: 5 to hill 0, 20 of each other girl", x.led(3), 105);
        Due.is("hired by mend() alone", x.led(4), 0);
        Due.is("swept off", x.led(5), 0);
        x.letGo(6);
        Due.is("let go", x.led(4), 0);
        x.hire(6, 1);
        x.hire(6, 1);
        Due.is("hired once", x.led(4), 1);
        x.sweep(0);
        x.sweep(0);
        x.sweep(6);
        Due.is("swept off", x.led(5), 9999);
        x.undo();
        x.redo();
        Due.is("what 6", x.led(6), -1);
        Due.is("what -1", x.led(-1), -1);
        Due.is("days still", x.led(0), 7);
    }

    /** Telling the same number is none. */
    private static void sameNumberIsNoChange() {
        MaidsMemory x = new MaidsMemory();
        x.house();
        x.girl(20, 3);
        int[][] same = {{0, 0, 0}, {0, 1, 0}, {0, 2, 20}, {0, 3, 3}, {0, 4, -1}, {0, 5, 100}, {0, 6, 0}, {0, 7, 0}};
        for (int[] call : same) {
            Due.is("mend(" + call[0] + ", " + call[1] + ", the same)", x.mend(call[0], call[1], call[2]), call[2]);
        }
        Due.is("none of them", x.count(3), 0);
        Due.is("none of them", x.undo(), -5);
        x.mend(0, 5, 50);
        x.mend(0, 5, 60);
        x.undo();
        for (int[] call : same) {
            x.mend(call[0], call[1], call[1] == 5 ? 50 : call[2]);
        }
        Due.is("none that came behind", x.redo(), 0);
        Due.is("done again", x.of(0, 5), 60);
    }

    /** UNDONE, the latest first; DONE AGAIN in the order of before. */
    private static void latestFirst() {
        MaidsMemory x = new MaidsMemory();
        int[] hills = {2, 0, 2, 3, 2};
        int[] was = {100, 100, 11, 100, 13};
        for (int i = 0; i < 5; i++) {
            Due.is("mend()", x.mend(hills[i], 5, 11 + i), was[i]);
        }
        for (int i = 4; i >= 0; i--) {
            Due.is("undo()", x.undo(), i);
            Due.is("what it was", x.of(hills[i], 5), was[i]);
        }
        Due.is("none", x.undo(), -5);
        for (int i = 0; i < 5; i++) {
            Due.is("redo()", x.redo(), 4 - i);
            Due.is("what it became", x.of(hills[i], 5), 11 + i);
        }
        Due.is("none", x.redo(), -5);
    }

    /** DONE AGAIN as long as no other came behind. */
    private static void noOtherBehind() {
        MaidsMemory x = new MaidsMemory();
        x.mend(0, 5, 1);
        x.mend(0, 5, 2);
        x.mend(0, 5, 3);
        x.undo();
        x.undo();
        x.mend(0, 5, 1000);
        x.mend(0, 5, 1);
        Due.is("one of two", x.redo(), 1);
        Due.is("one of two", x.of(0, 5), 2);
        x.mend(1, 5, 7);
        Due.is("another came behind", x.redo(), -5);
        Due.is("three may be undone", x.count(3), 3);
        x.undo();
        Due.is("that one may be done again", x.redo(), 0);
        Due.is("that one", x.of(1, 5), 7);
        Due.is("and not the one of before", x.of(0, 5), 2);
    }

    /** 40 at most are kept: the latest ones, for both ways. */
    private static void fortyAreKept() {
        MaidsMemory x = new MaidsMemory();
        for (int i = 1; i <= 43; i++) {
            x.mend(i % 4, i % 8 < 4 ? 5 : 6, i);
            Due.is("kept", x.count(3), Math.min(i, 40));
        }
        for (int i = 43; i >= 4; i--) {
            Due.is("undo()", x.undo(), i - 4);
            int was = i > 8 ? i - 8 : i % 8 < 4 ? 100 : 0;
            Due.is("what it was", x.of(i % 4, i % 8 < 4 ? 5 : 6), was);
        }
        Due.is("the first three are not kept", x.undo(), -5);
        Due.is("the first three are not kept", x.of(3, 5), 3);
        for (int i = 4; i <= 43; i++) {
            Due.is("redo()", x.redo(), 43 - i);
            Due.is("what it became", x.of(i % 4, i % 8 < 4 ? 5 : 6), i);
        }
        Due.is("no more", x.redo(), -5);
        x.undo();
        Due.is("39", x.count(3), 39);
        x.mend(0, 7, 1);
        Due.is("40 again, none lost", x.count(3), 40);
        for (int i = 0; i < 39; i++) {
            x.undo();
        }
        Due.is("the oldest that is kept", x.undo(), 0);
        Due.is("the oldest that is kept", x.of(0, 6), 0);
    }

    /** Deeds are none (CLUTTER, HIRED, HEARD, WEEKDAY by them, too). */
    private static void deedsAreNone() {
        MaidsMemory x = new MaidsMemory();
        x.house();
        x.girl(9, 0);
        x.hire(0, 0);
        x.letGo(0);
        x.day();
        x.sweep(0);
        x.image();
        x.back();
        Due.is("no change yet", x.count(3), 0);
        Due.is("no change yet", x.undo(), -5);
        int[][] changes = {{0, 0, 5}, {0, 1, 30}, {0, 4, 0}, {0, 6, 20}, {0, 7, 6}};
        for (int[] call : changes) {
            x.mend(call[0], call[1], call[2]);
        }
        x.day();
        x.letGo(0);
        x.day();
        x.sweep(0);
        Due.is("five changes", x.count(3), 5);
        int[] was = {0, 0, -1, 0, 1};
        for (int i = 4; i >= 0; i--) {
            Due.is("undo()", x.undo(), i);
            Due.is("as ahead of the change", x.of(0, changes[i][1]), was[i]);
        }
        x.day();
        x.hire(0, 0);
        for (int i = 0; i < 5; i++) {
            Due.is("redo()", x.redo(), 4 - i);
            Due.is("as by the change", x.of(0, changes[i][1]), changes[i][2]);
        }
    }

    /** AN IMAGE keeps CLUTTER, HIRED, HEARD, WEEKDAY, what GIRLS HAVE, what LED tells: on a street that is full. */
    private static void imageKeeps() {
        MaidsMemory x = new MaidsMemory();
        for (int house = 0; house < 6; house++) {
            x.house();
            x.mend(10 * house + 3, 0, house + 1);
        }
        for (int girl = 0; girl < 7; girl++) {
            x.girl(5, girl % 4);
            x.hire(girl, 5 - girl % 6);
        }
        Due.days(x, 8);
        x.sweep(5);
        int[] then = seen(x);
        Due.is("image()", x.image(), 8);
        for (int girl = 0; girl < 7; girl++) {
            x.letGo(girl);
            x.hire(girl, girl % 6);
        }
        Due.days(x, 13);
        x.sweep(3);
        for (int hill = 0; hill < 4; hill++) {
            x.mend(hill, 5, 200 + hill);
            x.mend(hill, 6, 300);
        }
        Due.is("back()", x.back(), 8);
        int[] now = seen(x);
        for (int i = 0; i < then.length; i++) {
            Due.is("as then: " + i, now[i], then[i]);
        }
        for (int hill = 0; hill < 4; hill++) {
            Due.is("HOLDS is not kept", x.of(hill, 5), 200 + hill);
        }
        Due.is("PUTS is not kept, either", x.mend(53, 0, 2), 6);
        x.back();
        Due.is("PUTS is not kept, either", x.of(53, 0), 2);
        Due.is("laid back twice", x.led(0), 8);
    }

    /** All that an image keeps, of a street that is full. */
    private static int[] seen(MaidsMemory x) {
        int[] all = new int[6 + 7 + 4 + 1 + 7 + 42 + 6];
        int i = 0;
        for (int house = 0; house < 6; house++) {
            all[i++] = x.of(house, 1);
        }
        for (int girl = 0; girl < 7; girl++) {
            all[i++] = x.of(girl, 4);
            all[i++] = x.of(girl, 8);
            for (int house = 0; house < 6; house++) {
                all[i++] = x.has(girl, 10 * house + 3);
            }
        }
        for (int hill = 0; hill < 4; hill++) {
            all[i++] = x.of(hill, 6);
        }
        all[i++] = x.of(0, 7);
        for (int what = 0; what < 6; what++) {
            all[i++] = x.led(what);
        }
        return all;
    }

    /** STATE: there is none; an image of a street without houses is one. */
    private static void imageOfNothing() {
        MaidsMemory x = new MaidsMemory();
        Due.is("none", x.back(), -5);
        x.day();
        Due.is("none", x.back(), -5);
        Due.is("none changes nothing", x.led(0), 1);
        Due.is("image()", x.image(), 1);
        x.house();
        x.girl(9, 0);
        x.hire(0, 0);
        x.mend(0, 0, 4);
        Due.days(x, 3);
        Due.is("back()", x.back(), 1);
        Due.is("a girl that came since HAS as she is", x.has(0, 0), 9);
        Due.is("a girl that came since is HIRED as she is", x.of(0, 4), 0);
        Due.is("a house that came since has CLUTTER as it is", x.of(0, 1), 3);
        Due.is("WEEKDAY", x.of(0, 7), 1);
        Due.is("how often one was HIRED then", x.led(4), 0);
        Due.is("it stays", x.back(), 1);
    }

    /** GIRLS of then HAVE what they HAD, nothing of HOUSES that came since. */
    private static void cameSince() {
        MaidsMemory x = new MaidsMemory();
        for (int girl = 0; girl < 7; girl++) {
            x.girl(50, girl % 4);
        }
        x.image();
        for (int house = 0; house < 6; house++) {
            x.house();
            x.mend(10 * house + 3, 0, 9);
            x.mend(house, 4, house);
        }
        Due.days(x, 2);
        Due.is("as she is", x.has(5, 53), 18);
        x.mend(0, 7, 6);
        Due.is("back()", x.back(), 0);
        for (int girl = 0; girl < 7; girl++) {
            Due.is("nothing of houses that came since", x.of(girl, 8), 0);
            Due.is("nothing of houses that came since", x.has(girl, 53), 0);
            Due.is("HIRED as then", x.of(girl, 4), -1);
        }
        x.mend(0, 7, 6);
        x.day();
        Due.is("nothing is left to tell", x.led(3), 0);
    }

    // ---- Terms 5

    /** BODIES 0 .. 49, of KINDS 0 .. 7. */
    private static void bodies() {
        MaidsMemory x = new MaidsMemory();
        Due.is("kind 8", x.body(8), -1);
        Due.is("kind -1", x.body(-1), -1);
        Due.is("no body 0 yet", x.keep(0, 0), -1);
        for (int i = 0; i < 50; i++) {
            Due.is("body()", x.body(7 - i % 8), i);
            Due.is("kept", x.keep(i % 6, i), 1);
            Due.is("none behind it", x.keep(i % 6, i + 1), -1);
        }
        Due.is("a body 50", x.body(0), -3);
        Due.is("still full", x.body(7), -3);
        Due.is("50 of them", x.count(4), 50);
        Due.is("the last one, a doctor", x.act(49, 0, 0), 98);
        Due.is("a body 50", x.act(50, 0, 0), 0);
        Due.is("a body 50", x.keep(0, 50), -1);
    }

    /** ACTS with x (an int that wraps). */
    private static void actsWrap() {
        MaidsMemory x = new MaidsMemory();
        for (int kind = 0; kind < 8; kind++) {
            x.body(kind);
        }
        int max = Integer.MAX_VALUE;
        int min = Integer.MIN_VALUE;
        Due.is("holds: x + n", x.act(0, 0, max), max);
        Due.is("holds: x + n + 3", x.act(1, 0, max - 3), min);
        Due.is("holds: (x + n) * 2", x.act(6, 0, max - 6), -2);
        Due.is("tells out: x * 2", x.act(0, 1, max), -2);
        Due.is("tells out: -((x + n) * 2)", x.act(2, 1, min - 2), 0);
        Due.is("tells out: x + 1 + n", x.act(3, 1, max - 3), 0);
        Due.is("tells out: the least int has no other sign", x.act(2, 1, 1073741822), min);
        Due.is("spills: x ^ n", x.act(6, 2, min), min + 6);
        Due.is("spills: times 3", x.act(3, 2, min), (min + 3) * 3);
        Due.is("spills: less holds(2)", x.act(4, 2, min), max - 4);
        Due.is("says", x.act(0, 3, max), -3);
        // Of Bess: 2x + 20 - 7 told out, less -6 spilt, less 1.
        Due.is("says: 2x + 18", x.act(7, 3, 1073741814), max - 1);
        Due.is("says: 2x + 18", x.act(7, 3, 1073741815), min);
    }

    /** THE TRACE: the latest act()'s, as they began; no TRACE where there is no such GRATE, ACT. */
    private static void trace() {
        MaidsMemory x = new MaidsMemory();
        Due.is("no act yet", x.count(5), 0);
        Due.is("no act yet", x.trace(0), -1);
        x.body(7);
        int[] longest = {81, 2, 80, 10, 20, 1, 50, 11, 20, 1, 50, 11, 20, 1};
        x.act(0, 3, 9);
        Due.is("the longest", x.count(5), longest.length);
        for (int i = 0; i < longest.length; i++) {
            Due.is("trace(" + i + ")", x.trace(i), longest[i]);
        }
        for (int i = longest.length; i < 30; i++) {
            Due.is("trace(" + i + ")", x.trace(i), -1);
        }
        Due.is("trace(-1)", x.trace(-1), -1);
        x.act(0, 0, 9);
        Due.is("the latest", x.count(5), 2);
        Due.is("the latest", x.trace(1), 1);
        Due.is("none of the one ahead", x.trace(2), -1);
        Due.is("no such act", x.act(0, 4, 9), 0);
        Due.is("no trace then", x.count(5), 0);
        x.act(0, 0, 9);
        Due.is("no such grate", x.act(1, 0, 9), 0);
        Due.is("no trace then", x.trace(0), -1);
    }

    /** SHELVES 0 .. 5 each hold nothing (at first). */
    private static void shelves() {
        MaidsMemory x = new MaidsMemory();
        x.body(0);
        for (int shelf = -1; shelf <= 6; shelf++) {
            boolean is = shelf >= 0 && shelf <= 5;
            Due.is("nothing at first", x.taken(shelf, 0), is ? -11 : -1);
            Due.is("nothing at first", x.put(shelf, 0, 1), is ? -11 : -1);
            Due.is("keep() nothing", x.keep(shelf, -1), is ? 1 : -1);
            Due.is("keep()", x.keep(shelf, 0), is ? 1 : -1);
            Due.is("taken()", x.taken(shelf, 0), is ? 0 : -1);
            Due.is("row()", x.row(shelf, 0, 1), is ? 1 : -1);
            Due.is("put()", x.put(shelf, 0, 1), is ? 1 : -1);
            Due.is("shift()", x.shift(shelf, 0, shelf, 0, 1), is ? 1 : -1);
            Due.is("keep() nothing", x.keep(shelf, -1), is ? 1 : -1);
            Due.is("nothing again", x.taken(shelf, 0), is ? -11 : -1);
        }
    }

    /** Of 0 .. 60 elements, 0 at first (false): a new one, too. */
    private static void rowsFromNothing() {
        for (int sort = 0; sort <= 4; sort++) {
            MaidsMemory x = new MaidsMemory();
            x.row(5, sort, 60);
            for (int i = 0; i < 60; i++) {
                x.put(5, i, 1);
            }
            x.row(4, sort, 60);
            Due.is("beside another one", x.element(4, 0), 0);
            Due.is("a new one", x.row(5, sort, 60), 1);
            for (int i = 0; i < 60; i++) {
                Due.is("0 at first", x.element(5, i), 0);
            }
            Due.is("no place 60", x.put(5, 60, 1), -13);
            Due.is("61 are too many", x.row(5, sort, 61), -1);
            Due.is("the row of before", x.put(5, 59, 1), 1);
            Due.is("none at all", x.row(5, sort, 0), 1);
            Due.is("no place 0", x.put(5, 0, 1), -13);
            Due.is("sort 5", x.row(5, 5, 1), -1);
            Due.is("sort -1", x.row(5, -1, 1), -1);
        }
    }

    /** What is put in keeps its lowest bits (a boolean: whether it is not 0; 1 or 0). */
    private static void lowestBits() {
        int[] bits = {8, 16, 32};
        for (int sort = 0; sort <= 2; sort++) {
            MaidsMemory x = new MaidsMemory();
            long half = 1L << bits[sort] - 1;
            Due.row(x, 0, sort, half - 1, half, -half, -half - 1, 2 * half, 2 * half - 1, 2 * half + 5, -1);
            long[] due = {half - 1, -half, -half, half - 1, 0, -1, 5, -1};
            for (int i = 0; i < due.length; i++) {
                Due.is("sort " + sort + ", element " + i, x.element(0, i), due[i]);
            }
        }
        MaidsMemory x = new MaidsMemory();
        Due.row(x, 0, 4, 0, 1, 2, -1, 256, 4294967296L, Long.MIN_VALUE, Long.MAX_VALUE);
        for (int i = 0; i < 8; i++) {
            Due.is("a boolean", x.element(0, i), i == 0 ? 0 : 1);
        }
        Due.row(x, 1, 3, Long.MIN_VALUE, Long.MAX_VALUE);
        Due.is("a long", x.element(1, 0), Long.MIN_VALUE);
        Due.is("a long", x.element(1, 1), Long.MAX_VALUE);
        Due.is("it is there", x.put(1, 0, Long.MIN_VALUE), 1);
        x.shift(1, 0, 1, 1, 1);
        Due.is("a long, shifted", x.element(1, 1), Long.MIN_VALUE);
    }

    /** -11: nothing is there where something is wanted. */
    private static void nothingThere() {
        MaidsMemory x = new MaidsMemory();
        x.girl(5, 0);
        x.row(1, 1, 4);
        Due.is("voices()", x.voices(0, 0), -11);
        Due.is("judge()", x.judge(0, 0), -11);
        Due.is("put()", x.put(0, 0, 0), -11);
        Due.is("element()", x.element(0, 0), Long.MIN_VALUE);
        Due.is("shift() from it", x.shift(0, 0, 1, 0, 0), -11);
        Due.is("shift() to it", x.shift(1, 0, 0, 0, 0), -11);
        Due.is("shift() on it", x.shift(0, 0, 0, 0, 0), -11);
        Due.is("taken()", x.taken(0, 7), -11);
        Due.is("girls(): a row that is missing", x.girls(0, 0, 7), 0);
    }

    /** -12: it is of another kind. */
    private static void anotherKind() {
        MaidsMemory x = new MaidsMemory();
        x.girl(5, 0);
        x.body(3);
        x.keep(0, 0);
        x.row(5, 2, 4);
        for (int sort = -1; sort <= 4; sort++) {
            if (sort >= 0) {
                x.row(0, sort, 4);
            }
            Due.is("voices() of " + sort, x.voices(0, 0), sort == 1 ? 2 : -12);
            Due.is("judge() of " + sort, x.judge(0, 0), sort == 0 ? 0 : -12);
            Due.is("girls() of " + sort, x.girls(0, 0, 1), sort == 0 ? 0 : -12);
            Due.is("put() of " + sort, x.put(0, 0, 0), sort < 0 ? -12 : 1);
            Due.is("shift() from " + sort, x.shift(0, 0, 5, 0, 1), sort == 2 ? 1 : -12);
            Due.is("shift() to " + sort, x.shift(5, 0, 0, 0, 1), sort == 2 ? 1 : -12);
            Due.is("taken() of " + sort, x.taken(0, 3), sort < 0 ? 3 : -12);
            Due.is("taken() for a train of " + sort, x.taken(0, 5), -12);
        }
    }

    /** -13: a place that is not there. */
    private static void noPlace() {
        MaidsMemory x = new MaidsMemory();
        for (int n = 0; n <= 60; n += 15) {
            x.row(0, 2, n);
            x.row(1, 2, 60);
            Due.is("put() ahead of the first", x.put(0, -1, 1), -13);
            Due.is("put() on the last", x.put(0, n - 1, 1), n == 0 ? -13 : 1);
            Due.is("put() behind the last", x.put(0, n, 1), -13);
            Due.is("element() behind the last", x.element(0, n), Long.MIN_VALUE);
            Due.is("element() ahead of the first", x.element(0, -1), Long.MIN_VALUE);
            Due.is("shift() of all", x.shift(0, 0, 1, 60 - n, n), n);
            Due.is("shift() of one more", x.shift(0, 0, 1, 0, n + 1), -13);
            Due.is("shift() to a place too far", x.shift(0, 0, 1, 61 - n, n), -13);
            Due.is("shift() of none, behind the last", x.shift(0, n, 1, 60, 0), 0);
            Due.is("shift() of none, farther", x.shift(0, n + 1, 1, 60, 0), -13);
            Due.is("shift() of none, to farther", x.shift(0, n, 1, 61, 0), -13);
            Due.is("shift() from ahead", x.shift(0, -1, 1, 0, 1), -13);
            Due.is("shift() to ahead", x.shift(0, 0, 1, -1, 0), -13);
            Due.is("shift() of less than none", x.shift(0, 0, 1, 0, -1), -13);
        }
    }

    /** Elements come to the same row, or another one, as they all were before. */
    private static void asTheyAllWere() {
        for (int i = -1; i <= 7; i++) {
            for (int j = -1; j <= 7; j++) {
                for (int n = -1; n <= 7; n++) {
                    for (int other = 2; other <= 3; other++) {
                        MaidsMemory x = new MaidsMemory();
                        Due.row(x, 2, 2, 10, 11, 12, 13, 14, 15);
                        Due.row(x, 3, 2, 20, 21, 22, 23, 24, 25);
                        boolean is = i >= 0 && j >= 0 && n >= 0 && i + n <= 6 && j + n <= 6;
                        String told = "shift(2, " + i + ", " + other + ", " + j + ", " + n + ")";
                        Due.is(told, x.shift(2, i, other, j, n), is ? n : -13);
                        for (int k = 0; k < 6; k++) {
                            int due = is && k >= j && k < j + n ? 10 + k - j + i : 10 * (other - 1) + k;
                            Due.is(told + ", element " + k, x.element(other, k), due);
                        }
                    }
                }
            }
        }
    }

    /** -14: a size below 0. */
    private static void sizeBelowNothing() {
        MaidsMemory x = new MaidsMemory();
        Due.row(x, 0, 2, 8);
        for (int sort = 0; sort <= 4; sort++) {
            Due.is("row(0, " + sort + ", -1)", x.row(0, sort, -1), -14);
            Due.is("row(0, " + sort + ", least)", x.row(0, sort, Integer.MIN_VALUE), -14);
        }
        Due.is("it holds what it held", x.element(0, 0), 8);
    }

    /** It ends where the row is missing, ends (within a two, too), one is not so: those ahead came. */
    private static void girlsFromRow() {
        for (int length = 0; length <= 15; length++) {
            for (int from = 0; from <= length + 1; from++) {
                MaidsMemory x = new MaidsMemory();
                x.row(0, 0, length);
                for (int i = 0; i < length; i++) {
                    x.put(0, i, 1 + i % 3);
                }
                int twos = Math.max(0, (length - from) / 2);
                Due.is("girls(0, " + from + ", 7) of " + length, x.girls(0, from, 7), twos);
                Due.is("those came", x.count(1), twos);
                Due.is("the first one", x.of(0, 2), twos == 0 ? VOID : 1 + from % 3);
                Due.is("the last one", x.of(twos - 1, 3), twos == 0 ? VOID : 1 + (from + 2 * twos - 1) % 3);
            }
        }
        int[][] notSo = {{0, 0}, {100, 0}, {-1, 0}, {50, 4}, {50, -1}};
        for (int[] two : notSo) {
            MaidsMemory x = new MaidsMemory();
            Due.row(x, 0, 0, 99, 0, 1, 3, two[0], two[1], 5, 0);
            Due.is("two ahead of " + two[0] + ", " + two[1], x.girls(0, 0, 7), 2);
            Due.is("none behind it", x.count(1), 2);
        }
    }

    /** Or GIRLS are FULL. n of them: 1 .. 7. */
    private static void girlsFull() {
        for (int there = 0; there <= 7; there++) {
            for (int n = 0; n <= 8; n++) {
                MaidsMemory x = new MaidsMemory();
                x.row(5, 0, 60);
                for (int i = 0; i < 60; i += 2) {
                    x.put(5, i, 60 - i);
                }
                for (int girl = 0; girl < there; girl++) {
                    x.girl(99, 3);
                }
                int came = n < 1 || n > 7 ? -1 : Math.min(n, 7 - there);
                Due.is(n + " beside " + there, x.girls(5, 10, n), came);
                Due.is("in all", x.count(1), there + Math.max(0, came));
            }
        }
    }
}
