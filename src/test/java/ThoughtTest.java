/** Promises 10 to 17: days in thought, packing, whom to hire and whom one could do without. */
public final class ThoughtTest {
    public static void main(String[] args) {
        promise10();
        promise10WayHome();
        promise11();
        promise12();
        promise12Longest();
        promise13();
        promise14();
        promise14Like();
        promise14Cannot();
        promise15();
        promise16();
        promise16OfAll();
        promise17();
        Due.end("ThoughtTest");
    }

    /** A house that puts by 4 a day, a girl of ROOM 10 for it who goes home to hill 1, which HOLDS 5. */
    private static MaidsMemory oneGirl() {
        MaidsMemory x = new MaidsMemory();
        x.house();
        x.girl(10, 1);
        x.girl(99, 1);
        x.mend(0, 0, 4);
        x.mend(1, 5, 5);
        x.hire(0, 0);
        return x;
    }

    private static void promise10() {
        MaidsMemory x = oneGirl();
        int[][] due = {
            {0, 0, 0, 0}, {1, 0, 0, 4}, {2, 0, 0, 8}, {3, 0, 0, 10}, {6, 0, 0, 10}, {7, 0, 0, 5}, {8, 0, 0, 9},
            {9, 0, 0, 10}, {60, 0, 0, 10}, {60, 1, 0, 0},
            {0, 0, 1, 0}, {2, 0, 1, 0}, {3, 0, 1, 2}, {7, 0, 1, 18}, {8, 0, 1, 18}, {9, 0, 1, 21}, {60, 0, 1, 225},
            {0, 1, 2, 0}, {6, 1, 2, 0}, {7, 1, 2, 5}, {60, 1, 2, 5}, {60, 0, 2, 0}, {60, 3, 2, 0}};
        for (int[] call : due) {
            String told = "10: later(" + call[0] + ", " + call[1] + ", " + call[2] + ")";
            Due.is(told, x.later(call[0], call[1], call[2]), call[3]);
        }
        Due.is("10: in thought alone", x.of(0, 8), 0);
        Due.is("10: in thought alone", x.of(0, 7), 0);
        Due.is("10: in thought alone", x.led(0), 0);
        Due.is("10: in thought alone", x.of(1, 6), 0);
        int[][] bad = {
            {-1, 0, 0}, {61, 0, 0}, {0, 2, 0}, {0, -1, 0}, {0, 1, 1}, {0, -1, 1}, {0, 4, 2}, {0, -1, 2}, {0, 0, 3},
            {0, 0, -1}, {Integer.MAX_VALUE, 0, 0}, {Integer.MIN_VALUE, 0, 0}, {0, Integer.MAX_VALUE, 2}};
        for (int[] call : bad) {
            String told = "10: later(" + call[0] + ", " + call[1] + ", " + call[2] + ")";
            Due.is(told, x.later(call[0], call[1], call[2]), -1);
        }
    }

    private static void promise10WayHome() {
        MaidsMemory x = oneGirl();
        x.mend(0, 7, 5);
        Due.is("10: not yet Saturday", x.later(1, 1, 2), 0);
        Due.is("10: home from WEEKDAY 6", x.later(2, 1, 2), 5);
        x.mend(1, 6, 3);
        Due.is("10: as much as it HOLDS more than it has HEARD", x.later(2, 0, 0), 6);
        Due.is("10: HEARD", x.later(2, 1, 2), 5);
        x.mend(1, 6, 8);
        Due.is("10: HEARD more than it HOLDS", x.later(2, 1, 2), 8);
        Due.is("10: she keeps it all", x.later(2, 0, 0), 8);
        // Girls go home by numbers, though nobody hired them any more.
        MaidsMemory y = oneGirl();
        y.hire(1, 0);
        Due.days(y, 6);
        Due.is("10: what girl 0 has", y.of(0, 8), 10);
        Due.is("10: what girl 1 has", y.of(1, 8), 14);
        y.letGo(0);
        y.letGo(1);
        y.mend(1, 5, 12);
        Due.is("10: girl 0 says all", y.later(1, 0, 0), 0);
        Due.is("10: girl 1 says what is heard still", y.later(1, 1, 0), 12);
        y.mend(0, 3, 2);
        Due.is("10: girl 0 to another hill", y.later(1, 2, 2), 10);
        Due.is("10: girl 1 says more so", y.later(1, 1, 0), 2);
        Due.is("10: what is left alone", y.later(1, 0, 1), 4);
    }

    private static void promise11() {
        MaidsMemory x = new MaidsMemory();
        x.house();
        x.house();
        x.girl(10, 1);
        x.mend(0, 0, 3);
        x.mend(2, 0, 5);
        x.mend(1, 5, 6);
        x.hire(0, 0);
        int[][] due = {
            {0, 0, 0, 0}, {1, 0, 0, 3}, {1, 0, 2, 5}, {2, 0, 0, 5}, {2, 0, 2, 5}, {6, 0, 0, 5}, {7, 0, 0, 0},
            {7, 0, 2, 4}, {8, 0, 0, 3}, {8, 0, 2, 7}, {60, 0, 0, 3}, {60, 0, 2, 7}, {60, 0, 10, 0}, {60, 0, 1, 0}};
        for (int[] call : due) {
            String told = "11: knows(" + call[0] + ", " + call[1] + ", " + call[2] + ")";
            Due.is(told, x.knows(call[0], call[1], call[2]), call[3]);
        }
        int[][] bad = {{-1, 0, 0}, {61, 0, 0}, {0, 1, 0}, {0, -1, 0}, {0, 0, 4}, {0, 0, 20}, {0, 0, -1}, {0, 0, -10}};
        for (int[] call : bad) {
            String told = "11: knows(" + call[0] + ", " + call[1] + ", " + call[2] + ")";
            Due.is(told, x.knows(call[0], call[1], call[2]), -1);
        }
        Due.is("11: in thought alone", x.has(0, 0), 0);
        // Of another house first: house by house she says it.
        x.mend(0, 4, 1);
        x.mend(10, 0, 1);
        Due.days(x, 6);
        x.mend(0, 4, 0);
        Due.is("11: girl of two houses", x.knows(1, 0, 10), 4);
        Due.is("11: the first house's was said ahead", x.knows(1, 0, 0), 0);
        Due.is("11: and its other sort's", x.knows(1, 0, 2), 0);
    }

    private static void promise12() {
        MaidsMemory x = oneGirl();
        Due.is("12: first(0, 0)", x.first(0, 0), 3);
        Due.is("12: first(1, 0)", x.first(1, 0), -2);
        Due.is("12: first(0, 1)", x.first(0, 1), 3);
        Due.is("12: first(1, 2)", x.first(1, 2), 7);
        Due.is("12: first(0, 2)", x.first(0, 2), -2);
        x.mend(1, 5, 11);
        Due.is("12: a hill that holds 11", x.first(1, 2), 14);
        x.mend(1, 5, 10);
        Due.is("12: a hill that holds 10", x.first(1, 2), 7);
        x.mend(1, 5, 100);
        Due.is("12: a hill that holds 100", x.first(1, 2), -2);
        x.mend(1, 6, 20);
        Due.is("12: a hill that heard 20 of 100", x.first(1, 2), 56);
        x.mend(1, 6, 101);
        Due.is("12: a hill that heard more than it holds", x.first(1, 2), 0);
        x.mend(0, 5, 0);
        Due.is("12: a hill that holds nothing", x.first(0, 2), 0);
        x.mend(0, 1, 50);
        Due.is("12: more clutter than now", x.first(0, 1), 3);
        x.mend(0, 1, 9999);
        Due.is("12: no more clutter can be", x.first(0, 1), -2);
        Due.days(x, 2);
        Due.is("12: from now", x.first(0, 0), 1);
        x.mend(0, 2, 8);
        Due.is("12: full now", x.first(0, 0), 0);
        x.mend(0, 2, 7);
        Due.is("12: more than full now", x.first(0, 0), 0);
        int[][] bad = {{2, 0}, {-1, 0}, {1, 1}, {-1, 1}, {4, 2}, {-1, 2}, {0, 3}, {0, -1}};
        for (int[] call : bad) {
            Due.is("12: first(" + call[0] + ", " + call[1] + ")", x.first(call[0], call[1]), -1);
        }
        Due.is("12: in thought alone", x.led(0), 2);
    }

    private static void promise12Longest() {
        MaidsMemory x = new MaidsMemory();
        x.house();
        x.girl(60, 0);
        x.mend(0, 0, 1);
        x.mend(0, 5, 0);
        x.hire(0, 0);
        Due.is("12: full behind 60 days", x.first(0, 0), 60);
        Due.is("12: no clutter behind 60", x.first(0, 1), -2);
        x.mend(0, 2, 59);
        Due.is("12: clutter behind 60", x.first(0, 1), 60);
        x.mend(0, 2, 61);
        Due.is("12: not full behind 60", x.first(0, 0), -2);
    }

    private static void promise13() {
        MaidsMemory x = new MaidsMemory();
        x.house();
        x.house();
        Due.is("13: week(0)", x.week(0), 0);
        x.mend(10, 0, 1);
        x.mend(11, 0, 2);
        x.mend(12, 0, 3);
        x.mend(13, 0, 9);
        Due.is("13: week(0)", x.week(0), 0);
        Due.is("13: week(1)", x.week(1), 105);
        Due.is("13: week(2)", x.week(2), -1);
        Due.is("13: week(-1)", x.week(-1), -1);
        Due.is("13: week(min)", x.week(Integer.MIN_VALUE), -1);
    }

    /** Houses that put by so much a day, of one sort, and girls of such ROOM. */
    private static MaidsMemory packed(int[] puts, int... rooms) {
        MaidsMemory x = new MaidsMemory();
        for (int put : puts) {
            int house = x.house();
            x.mend(10 * house + 3, 0, put);
        }
        for (int room : rooms) {
            x.girl(room, 0);
        }
        return x;
    }

    private static void packs(MaidsMemory x, int how, int... who) {
        Due.is("14: pack(-1)", x.pack(-1), how);
        for (int k = 0; k < who.length; k++) {
            Due.is("14: pack(" + k + ")", x.pack(k), who[k]);
        }
        Due.is("14: pack(-2)", x.pack(-2), -1);
        Due.is("14: pack(houses)", x.pack(who.length), -1);
        Due.is("14: pack(min)", x.pack(Integer.MIN_VALUE), -1);
        Due.is("14: pack(max)", x.pack(Integer.MAX_VALUE), -1);
    }

    private static void promise14() {
        packs(new MaidsMemory(), 0);
        packs(packed(new int[] {0, 0}), 0, 0, 0);
        packs(packed(new int[] {2, 3}, 10, 14, 25, 7), 2, 2, 4);
        packs(packed(new int[] {2}, 14), 1, 1);
        packs(packed(new int[] {2}, 13), -2, -2);
        packs(packed(new int[] {2}, 13, 1), 2, 3);
        packs(packed(new int[] {0, 2, 0}, 5, 9), 2, 0, 3, 0);
        MaidsMemory x = packed(new int[] {2, 3}, 10, 14, 25, 7);
        x.hire(2, 0);
        x.hire(1, 1);
        Due.days(x, 5);
        packs(x, 2, 2, 4);
        Due.is("14: nobody is hired by it", x.of(2, 4), 0);
    }

    private static void promise14Like() {
        packs(packed(new int[] {1, 1}, 7, 7, 7), 2, 1, 2);
        // The least for house 0 is not to be had: house 1 needs her.
        packs(packed(new int[] {1, 2}, 14, 7), 2, 2, 1);
        packs(packed(new int[] {1, 2}, 20, 10, 10), 2, 2, 1);
        packs(packed(new int[] {2, 1}, 7, 7, 14, 7), 2, 4, 1);
        packs(packed(new int[] {2, 2}, 7, 7, 7, 7), 4, 3, 12);
        packs(packed(new int[] {3, 1}, 7, 20, 1, 7), 3, 3, 8);
        packs(packed(new int[] {1, 1, 1, 1, 1, 1}, 7, 7, 7, 7, 7, 7, 7), 6, 1, 2, 4, 8, 16, 32);
        packs(packed(new int[] {9, 1}, 10, 9, 10, 11, 9, 14, 7), 7, 63, 64);
        packs(packed(new int[] {9}, 10, 9, 10, 11, 9, 14, 7), 6, 63);
    }

    private static void promise14Cannot() {
        packs(packed(new int[] {1}), -2, -2);
        packs(packed(new int[] {1, 1}, 99), -2, -2, -2);
        packs(packed(new int[] {0, 1}), -2, -2, -2);
        packs(packed(new int[] {9, 9}, 60, 60, 5), -2, -2, -2);
    }

    private static void promise15() {
        Due.is("15: no houses", new MaidsMemory().whose(), -2);
        Due.is("15: all can", packed(new int[] {1, 1}, 7, 7).whose(), -2);
        Due.is("15: the first can't", packed(new int[] {2, 1}, 7).whose(), 0);
        Due.is("15: the second can't with the first", packed(new int[] {1, 1}, 99).whose(), 1);
        Due.is("15: the second can't at all", packed(new int[] {1, 9, 9}, 7, 7).whose(), 1);
        Due.is("15: the third can't with those ahead", packed(new int[] {1, 0, 2}, 7, 13).whose(), 2);
        Due.is("15: girls may change houses", packed(new int[] {1, 2}, 14, 7).whose(), -2);
        Due.is("15: the last", packed(new int[] {1, 1, 1, 1, 1, 1}, 7, 7, 7, 7, 7).whose(), 5);
        Due.is("15: nobody there", packed(new int[] {0, 0, 1}).whose(), 2);
    }

    private static void promise16() {
        MaidsMemory x = new MaidsMemory();
        x.house();
        x.house();
        x.mend(1, 0, 5);
        Due.is("16: there is no girl", x.hires(0, 4, 0), -2);
        Due.is("16: there is no girl", x.hires(0, 4, 1), -2);
        x.girl(3, 0);
        x.girl(30, 0);
        x.girl(30, 0);
        Due.is("16: who", x.hires(0, 4, 0), 1);
        Due.is("16: that", x.hires(0, 4, 1), 0);
        Due.is("16: who, behind 7 days", x.hires(0, 7, 0), 1);
        Due.is("16: that, behind 7 days", x.hires(0, 7, 1), 5);
        Due.is("16: by no days all are like", x.hires(0, 0, 0), 0);
        Due.is("16: by no days that is as now", x.hires(0, 0, 1), 0);
        Due.is("16: by another house all are like", x.hires(1, 4, 0), 0);
        Due.is("16: by another house", x.hires(1, 4, 1), 20);
        x.hire(1, 1);
        Due.is("16: one who is hired is not asked", x.hires(0, 4, 0), 2);
        x.hire(2, 1);
        Due.is("16: the one who is left", x.hires(0, 4, 0), 0);
        Due.is("16: the one who is left", x.hires(0, 4, 1), 17);
        x.hire(0, 1);
        Due.is("16: all are hired", x.hires(0, 4, 0), -2);
        Due.is("16: all are hired", x.hires(0, 4, 1), -2);
        int[][] bad = {{2, 4, 0}, {-1, 4, 0}, {0, -1, 0}, {0, 61, 0}, {0, 4, 2}, {0, 4, -1}};
        for (int[] call : bad) {
            String told = "16: hires(" + call[0] + ", " + call[1] + ", " + call[2] + ")";
            Due.is(told, x.hires(call[0], call[1], call[2]), -1);
        }
        Due.is("16: in thought alone", x.led(4), 3);
        Due.is("16: in thought alone", x.led(0), 0);
    }

    private static void promise16OfAll() {
        MaidsMemory x = new MaidsMemory();
        x.house();
        x.house();
        x.mend(0, 0, 2);
        x.mend(10, 0, 3);
        x.mend(0, 1, 100);
        x.mend(1, 1, 40);
        x.girl(10, 0);
        Due.is("16: clutter of all, with what is there", x.hires(0, 3, 1), 149);
        Due.is("16: clutter of all, with what is there", x.hires(1, 3, 1), 146);
        Due.is("16: the longest", x.hires(1, 60, 0), 0);
        Due.is("16: the law counts", Due.law(x, "1"), 1);
        Due.is("16: by the law", x.hires(1, 3, 1), 152);
    }

    private static void promise17() {
        MaidsMemory x = new MaidsMemory();
        x.house();
        x.mend(0, 0, 5);
        x.girl(30, 0);
        x.girl(30, 0);
        x.girl(99, 0);
        Due.is("17: none is hired", x.spare(10), 0);
        x.hire(0, 0);
        x.hire(1, 0);
        Due.is("17: either of two", x.spare(6), 3);
        Due.is("17: neither of two", x.spare(7), 0);
        Due.is("17: by no days all", x.spare(0), 3);
        x.mend(0, 2, 35);
        Due.is("17: the second one", x.spare(7), 2);
        x.mend(0, 0, 0);
        Due.is("17: nothing to put by", x.spare(60), 3);
        x.mend(0, 1, 9999);
        x.mend(0, 0, 9);
        Due.is("17: there is all clutter that can be", x.spare(60), 3);
        Due.is("17: spare(-1)", x.spare(-1), -1);
        Due.is("17: spare(61)", x.spare(61), -1);
        Due.is("17: in thought alone", x.of(0, 4), 0);
        Due.is("17: in thought alone", x.of(1, 4), 0);
    }
}
