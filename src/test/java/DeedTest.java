/** Promises 27 to 35: days in deed, hiring, sweeping, what is led, images, undoing. */
public final class DeedTest {
    public static void main(String[] args) {
        promise27();
        promise27Saturday();
        promise28();
        promise29();
        promise30();
        promise31();
        promise31PutBy();
        promise32();
        promise33();
        promise33Since();
        promise34();
        promise34Kinds();
        promise34Forty();
        promise35();
        promise35Deeds();
        Due.end("DeedTest");
    }

    private static void promise27() {
        MaidsMemory x = new MaidsMemory();
        Due.is("27: a street without houses", x.day(), 0);
        Due.is("27: WEEKDAY", x.of(0, 7), 1);
        x.house();
        x.house();
        x.mend(0, 0, 3);
        x.mend(1, 0, 2);
        x.mend(13, 0, 4);
        Due.is("27: all is clutter", x.day(), 9);
        Due.is("27: CLUTTER", x.of(0, 1), 5);
        Due.is("27: CLUTTER", x.of(1, 1), 4);
        x.girl(4, 0);
        x.girl(5, 0);
        x.girl(50, 0);
        x.hire(1, 0);
        x.hire(0, 0);
        // Girl 0 takes 3 of sort 0 and 1 of sort 1, girl 1 what is left of sort 1.
        Due.is("27: by numbers", x.day(), 4);
        Due.is("27: girl 0", x.has(0, 0), 3);
        Due.is("27: girl 0", x.has(0, 1), 1);
        Due.is("27: girl 1", x.has(1, 1), 1);
        Due.is("27: girl 1 takes on", x.day(), 5);
        Due.is("27: girl 1", x.has(1, 0), 3);
        Due.is("27: girl 1", x.has(1, 1), 2);
        Due.is("27: another house's girl takes none of it", x.of(2, 8), 0);
        Due.is("27: CLUTTER", x.of(0, 1), 6);
        x.mend(0, 1, 9997);
        x.mend(1, 1, 9999);
        Due.is("27: no more clutter than can be", x.day(), 2);
        Due.is("27: CLUTTER", x.of(0, 1), 9999);
        Due.is("27: CLUTTER", x.of(1, 1), 9999);
        Due.is("27: led", x.led(2), 20);
    }

    private static void promise27Saturday() {
        MaidsMemory x = new MaidsMemory();
        x.house();
        x.house();
        x.girl(99, 1);
        x.girl(99, 1);
        x.mend(0, 0, 1);
        x.mend(2, 0, 2);
        x.mend(10, 0, 3);
        x.hire(0, 0);
        x.hire(1, 1);
        x.mend(1, 5, 30);
        Due.days(x, 6);
        Due.is("27: WEEKDAY", x.of(0, 7), 6);
        Due.is("27: not home yet", x.of(1, 6), 0);
        x.letGo(1);
        x.day();
        Due.is("27: WEEKDAY", x.of(0, 7), 0);
        Due.is("27: girl 0 said all", x.of(0, 8), 0);
        Due.is("27: girl 1 said what the hill still held", x.has(1, 10), 9);
        Due.is("27: HEARD", x.of(1, 6), 30);
        Due.is("27: told to hills", x.led(3), 30);
        Due.days(x, 7);
        Due.is("27: the hill holds no more", x.has(0, 0), 7);
        Due.is("27: she keeps it", x.has(0, 2), 14);
        x.mend(1, 5, 32);
        x.mend(0, 7, 6);
        x.mend(0, 0, 0);
        x.mend(2, 0, 0);
        x.day();
        Due.is("27: sort by sort", x.has(0, 0), 5);
        Due.is("27: sort by sort", x.has(0, 2), 14);
        Due.is("27: what she has of all", x.of(0, 8), 19);
    }

    private static void promise28() {
        MaidsMemory x = new MaidsMemory();
        x.house();
        x.house();
        x.girl(5, 0);
        Due.is("28: hire(1, 0)", x.hire(1, 0), -1);
        Due.is("28: hire(-1, 0)", x.hire(-1, 0), -1);
        Due.is("28: hire(0, 2)", x.hire(0, 2), -1);
        Due.is("28: hire(0, -1)", x.hire(0, -1), -1);
        Due.is("28: hire(0, 1)", x.hire(0, 1), 1);
        Due.is("28: HIRED", x.of(0, 4), 1);
        Due.is("28: hired by another", x.hire(0, 0), -5);
        Due.is("28: hired by it", x.hire(0, 1), -5);
        Due.is("28: BAD is named first", x.hire(0, 2), -1);
        Due.is("28: HIRED", x.of(0, 4), 1);
        Due.is("28: led", x.led(4), 1);
        x.mend(0, 4, -1);
        Due.is("28: hired anew", x.hire(0, 0), 1);
        Due.is("28: led", x.led(4), 2);
        Due.is("28: deeds are no changes", x.count(3), 1);
    }

    private static void promise29() {
        MaidsMemory x = new MaidsMemory();
        x.house();
        x.house();
        x.girl(5, 0);
        Due.is("29: by nobody", x.letGo(0), -5);
        Due.is("29: letGo(1)", x.letGo(1), -1);
        Due.is("29: letGo(-1)", x.letGo(-1), -1);
        x.hire(0, 1);
        Due.is("29: by whom she was hired", x.letGo(0), 1);
        Due.is("29: HIRED", x.of(0, 4), -1);
        Due.is("29: let go already", x.letGo(0), -5);
        x.mend(0, 4, 0);
        Due.is("29: by whom she was hired", x.letGo(0), 0);
        Due.is("29: deeds are no changes", x.count(3), 1);
    }

    private static void promise30() {
        MaidsMemory x = new MaidsMemory();
        x.house();
        x.house();
        x.mend(12, 0, 6);
        Due.days(x, 2);
        Due.is("30: sweep(0)", x.sweep(0), 0);
        Due.is("30: sweep(1)", x.sweep(1), 12);
        Due.is("30: CLUTTER", x.of(1, 1), 0);
        Due.is("30: swept already", x.sweep(1), 0);
        Due.is("30: sweep(2)", x.sweep(2), -1);
        Due.is("30: sweep(-1)", x.sweep(-1), -1);
        Due.is("30: swept off", x.led(5), 12);
        x.mend(0, 1, 9999);
        Due.is("30: sweep(0)", x.sweep(0), 9999);
        Due.is("30: swept off", x.led(5), 10011);
        Due.is("30: deeds are no changes", x.count(3), 2);
    }

    private static void leds(MaidsMemory x, int... due) {
        for (int what = 0; what < 6; what++) {
            Due.is("31: led(" + what + ")", x.led(what), due[what]);
        }
    }

    private static void promise31() {
        MaidsMemory x = new MaidsMemory();
        x.house();
        x.girl(10, 2);
        x.mend(0, 0, 4);
        x.hire(0, 0);
        leds(x, 0, 0, 0, 0, 1, 0);
        x.day();
        leds(x, 1, 4, 0, 0, 1, 0);
        Due.days(x, 2);
        leds(x, 3, 10, 2, 0, 1, 0);
        x.sweep(0);
        leds(x, 3, 10, 2, 0, 1, 2);
        Due.days(x, 4);
        leds(x, 7, 10, 18, 10, 1, 2);
        x.letGo(0);
        x.hire(0, 0);
        x.later(60, 0, 0);
        x.drawn(1, 505, 0);
        x.spare(9);
        leds(x, 7, 10, 18, 10, 2, 2);
        x.undo();
        x.day();
        leds(x, 8, 10, 18, 10, 2, 2);
        int[] bad = {-1, 6, Integer.MAX_VALUE, Integer.MIN_VALUE};
        for (int what : bad) {
            Due.is("31: led(" + what + ")", x.led(what), -1);
        }
    }

    private static void promise31PutBy() {
        MaidsMemory x = new MaidsMemory();
        x.house();
        x.mend(0, 0, 9);
        x.mend(1, 0, 9);
        x.day();
        leds(x, 1, 0, 18, 0, 0, 0);
        x.girl(99, 0);
        x.girl(3, 0);
        x.mend(0, 4, 0);
        x.mend(1, 4, 0);
        Due.law(x, "5");
        x.day();
        leds(x, 2, 13, 23, 0, 0, 0);
        x.mend(0, 1, 0);
        leds(x, 2, 13, 23, 0, 0, 0);
    }

    private static void promise32() {
        MaidsMemory x = new MaidsMemory();
        Due.is("32: image()", x.image(), 0);
        Due.days(x, 3);
        Due.is("32: image()", x.image(), 3);
        Due.days(x, 2);
        Due.is("32: the latest one is laid back", x.back(), 3);
        Due.is("32: of those days", x.image(), 3);
        Due.is("32: an image is no change", x.count(3), 0);
    }

    private static void promise33() {
        MaidsMemory x = new MaidsMemory();
        Due.is("33: there is none", x.back(), -5);
        x.house();
        x.girl(20, 1);
        x.girl(10, 1);
        x.mend(0, 0, 6);
        x.mend(2, 0, 5);
        x.hire(0, 0);
        Due.days(x, 2);
        x.mend(0, 1, 33);
        x.mend(1, 6, 8);
        Due.is("33: image()", x.image(), 2);
        x.hire(1, 0);
        x.letGo(0);
        x.sweep(0);
        Due.days(x, 6);
        x.mend(1, 5, 50);
        x.mend(0, 2, 30);
        x.mend(0, 3, 2);
        x.mend(0, 0, 9);
        int changes = x.count(3);
        for (int again = 0; again < 2; again++) {
            Due.is("33: back()", x.back(), 2);
            Due.is("33: CLUTTER", x.of(0, 1), 33);
            Due.is("33: HIRED", x.of(0, 4), 0);
            Due.is("33: HIRED", x.of(1, 4), -1);
            Due.is("33: HEARD", x.of(1, 6), 8);
            Due.is("33: WEEKDAY", x.of(0, 7), 2);
            Due.is("33: what she had", x.has(0, 0), 12);
            Due.is("33: what she had", x.has(0, 2), 8);
            Due.is("33: of all", x.of(0, 8), 20);
            Due.is("33: of all", x.of(1, 8), 0);
            Due.is("33: HOLDS as it is", x.of(1, 5), 50);
            Due.is("33: ROOM as it is", x.of(0, 2), 30);
            Due.is("33: HILL as it is", x.of(0, 3), 2);
            Due.is("33: PUTS as it is", x.of(0, 0), 9);
            Due.is("33: led", x.led(0), 2);
            Due.is("33: led", x.led(1), 20);
            Due.is("33: led", x.led(2), 2);
            Due.is("33: led", x.led(3), 0);
            Due.is("33: led", x.led(4), 1);
            Due.is("33: led", x.led(5), 0);
            Due.is("33: changes stay", x.count(3), changes);
            Due.days(x, 9);
            x.hire(1, 0);
        }
    }

    private static void promise33Since() {
        MaidsMemory x = new MaidsMemory();
        x.house();
        x.girl(50, 1);
        x.mend(0, 0, 2);
        x.hire(0, 0);
        x.day();
        x.image();
        x.house();
        x.girl(60, 2);
        x.mend(10, 0, 3);
        x.mend(11, 0, 4);
        x.hire(1, 1);
        x.mend(0, 4, 1);
        Due.law(x, "a/2");
        Due.days(x, 3);
        Due.is("33: of a house that came since", x.has(0, 10), 3);
        Due.is("33: a girl that came since", x.has(1, 11), 3);
        int clutter = x.of(1, 1);
        Due.is("33: clutter of it", clutter, 6);
        Due.is("33: back()", x.back(), 1);
        Due.is("33: what she had", x.has(0, 0), 2);
        Due.is("33: nothing of a house that came since", x.has(0, 10), 0);
        Due.is("33: nothing of a house that came since", x.has(0, 11), 0);
        Due.is("33: of all", x.of(0, 8), 2);
        Due.is("33: hired as then", x.of(0, 4), 0);
        Due.is("33: a girl that came since, as she is", x.has(1, 11), 3);
        Due.is("33: of all, as she is", x.of(1, 8), 6);
        Due.is("33: hired as she is", x.of(1, 4), 1);
        Due.is("33: clutter as it is", x.of(1, 1), clutter);
        Due.is("33: clutter of then", x.of(0, 1), 0);
        Due.is("33: houses stay", x.count(0), 2);
        Due.is("33: girls stay", x.count(1), 2);
        Due.is("33: WEEKDAY", x.of(0, 7), 1);
    }

    private static void promise34() {
        MaidsMemory x = new MaidsMemory();
        x.house();
        Due.is("34: none", x.undo(), -5);
        x.mend(0, 0, 3);
        x.mend(0, 0, 3);
        Due.is("34: the same number is no change", x.count(3), 1);
        x.mend(0, 0, 5);
        x.mend(0, 5, 7);
        Due.is("34: undo()", x.undo(), 2);
        Due.is("34: the latest first", x.of(0, 5), 100);
        Due.is("34: the others stay", x.of(0, 0), 5);
        Due.is("34: undo()", x.undo(), 1);
        Due.is("34: PUTS", x.of(0, 0), 3);
        Due.is("34: undo()", x.undo(), 0);
        Due.is("34: PUTS", x.of(0, 0), 0);
        Due.is("34: none", x.undo(), -5);
        x.mend(0, 0, 10);
        Due.is("34: what is BAD is no change", x.undo(), -5);
    }

    private static void promise34Kinds() {
        MaidsMemory x = new MaidsMemory();
        x.house();
        x.girl(20, 1);
        int[][] told = {{0, 3}, {1, 30}, {2, 40}, {3, 2}, {4, 0}, {5, 60}, {6, 50}, {7, 5}};
        int[] first = {0, 0, 20, 1, -1, 100, 0, 0};
        for (int[] change : told) {
            x.mend(0, change[0], change[1]);
        }
        Due.is("34: all numbers of mend()", x.count(3), 8);
        for (int what = 7; what >= 0; what--) {
            Due.is("34: undo()", x.undo(), what);
            for (int other = 0; other < 8; other++) {
                int due = other >= what ? first[other] : told[other][1];
                Due.is("34: of(0, " + other + ")", x.of(0, other), due);
            }
        }
        for (int what = 0; what < 8; what++) {
            Due.is("35: redo()", x.redo(), 7 - what);
            for (int other = 0; other < 8; other++) {
                int due = other > what ? first[other] : told[other][1];
                Due.is("35: of(0, " + other + ")", x.of(0, other), due);
            }
        }
        // Deeds since then: what was told is laid there all the same.
        x.day();
        x.letGo(0);
        Due.is("34: WEEKDAY", x.of(0, 7), 6);
        Due.is("34: undo()", x.undo(), 7);
        Due.is("34: WEEKDAY as it was ahead of the change", x.of(0, 7), 0);
        for (int i = 0; i < 3; i++) {
            x.undo();
        }
        Due.is("34: HIRED as it was ahead of the change", x.of(0, 4), -1);
        x.redo();
        Due.is("35: HIRED as it was told", x.of(0, 4), 0);
    }

    private static void promise34Forty() {
        MaidsMemory x = new MaidsMemory();
        for (int i = 1; i <= 40; i++) {
            x.mend(0, 5, 100 + i);
            Due.is("34: count(3)", x.count(3), i);
        }
        for (int i = 41; i <= 45; i++) {
            Due.is("34: mend()", x.mend(0, 5, 100 + i), 99 + i);
            Due.is("34: 40 at most", x.count(3), 40);
        }
        for (int i = 39; i >= 0; i--) {
            Due.is("34: undo()", x.undo(), i);
        }
        Due.is("34: the oldest are forgotten", x.undo(), -5);
        Due.is("34: HOLDS", x.of(0, 5), 105);
        for (int i = 39; i >= 0; i--) {
            Due.is("35: redo()", x.redo(), i);
        }
        Due.is("35: none", x.redo(), -5);
        Due.is("35: HOLDS", x.of(0, 5), 145);
        x.undo();
        x.mend(1, 5, 1);
        Due.is("34: 40 again", x.count(3), 40);
        x.mend(1, 5, 2);
        Due.is("34: 40 still", x.count(3), 40);
        for (int i = 0; i < 40; i++) {
            x.undo();
        }
        Due.is("34: HOLDS", x.of(0, 5), 106);
        Due.is("34: HOLDS", x.of(1, 5), 100);
    }

    private static void promise35() {
        MaidsMemory x = new MaidsMemory();
        x.house();
        Due.is("35: none", x.redo(), -5);
        x.mend(0, 0, 3);
        Due.is("35: none", x.redo(), -5);
        x.mend(1, 0, 4);
        x.mend(2, 0, 5);
        x.undo();
        x.undo();
        Due.is("35: redo()", x.redo(), 1);
        Due.is("35: in their order", x.of(1, 0), 4);
        Due.is("35: count(3)", x.count(3), 2);
        x.mend(1, 0, 4);
        Due.is("35: the same number is no change", x.redo(), 0);
        Due.is("35: PUTS", x.of(2, 0), 5);
        Due.is("35: none", x.redo(), -5);
        x.undo();
        x.undo();
        x.mend(1, 0, 7);
        Due.is("35: another came behind", x.redo(), -5);
        Due.is("35: PUTS", x.of(2, 0), 0);
        Due.is("35: PUTS", x.of(1, 0), 7);
        Due.is("35: undo()", x.undo(), 1);
        Due.is("35: PUTS", x.of(1, 0), 0);
        x.mend(0, 0, 11);
        Due.is("35: what is BAD is none", x.redo(), 0);
        Due.is("35: PUTS", x.of(1, 0), 7);
    }

    private static void promise35Deeds() {
        MaidsMemory x = new MaidsMemory();
        x.house();
        x.girl(9, 0);
        x.mend(0, 0, 3);
        x.mend(0, 1, 50);
        x.undo();
        x.undo();
        x.hire(0, 0);
        x.day();
        x.sweep(0);
        x.letGo(0);
        x.image();
        x.back();
        x.house();
        x.girl(9, 0);
        Due.law(x, "a");
        Due.is("35: deeds are none", x.redo(), 1);
        Due.is("35: deeds are none", x.redo(), 0);
        Due.is("35: CLUTTER", x.of(0, 1), 50);
    }
}
