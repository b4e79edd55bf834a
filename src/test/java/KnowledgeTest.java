/** Promises 18 to 26: who gives whom away, what is heard, bills, turns, draws. */
public final class KnowledgeTest {
    private static final int VOID = -2000000000;

    public static void main(String[] args) {
        promise18();
        promise19();
        promise20();
        promise20More();
        promise21();
        promise21Refused();
        promise22();
        promise23();
        promise24();
        promise25();
        promise25Worth();
        promise25Free();
        promise25Refused();
        promise26();
        promise26Girls();
        promise26Refused();
        Due.end("KnowledgeTest");
    }

    /** Girl 0 has 3 of sort 0 of house 0, girl 1 has 2 of its sort 2, girl 2 has 1 of sort 1 of house 1. */
    private static MaidsMemory gossip() {
        MaidsMemory x = new MaidsMemory();
        x.house();
        x.house();
        x.house();
        x.girl(3, 0);
        x.girl(20, 1);
        x.girl(30, 2);
        x.mend(0, 0, 3);
        x.mend(2, 0, 2);
        x.mend(11, 0, 1);
        x.hire(0, 0);
        x.hire(1, 0);
        x.hire(2, 1);
        x.day();
        return x;
    }

    private static void givens(MaidsMemory x, int... due) {
        for (int set = 0; set < due.length; set++) {
            Due.is("18: given(" + set + ")", x.given(set), due[set]);
        }
        Due.is("18: given(all and one more)", x.given(due.length), -1);
        Due.is("18: given(-1)", x.given(-1), -1);
        Due.is("18: given(max)", x.given(Integer.MAX_VALUE), -1);
        Due.is("18: given(min)", x.given(Integer.MIN_VALUE), -1);
    }

    private static void promise18() {
        givens(new MaidsMemory(), 0);
        MaidsMemory x = gossip();
        givens(x, 0, 0, 0, 1, 2, 2, 2, 3);
        x.mend(13, 0, 1);
        givens(x, 0, 0, 0, 1, 0, 0, 0, 1);
        x.mend(2, 0, 0);
        givens(x, 0, 1, 0, 1, 0, 1, 0, 1);
        x.mend(0, 0, 0);
        givens(x, 0, 0, 0, 0, 0, 0, 0, 0);
        x.mend(20, 0, 1);
        givens(x, 0, 0, 0, 0, 0, 0, 0, 0);
        for (int i = 3; i < 7; i++) {
            x.girl(5, 0);
        }
        Due.is("18: given(127)", x.given(127), 0);
        Due.is("18: given(128)", x.given(128), -1);
    }

    private static void fewests(MaidsMemory x, int how, int who) {
        Due.is("19: fewest(0)", x.fewest(0), how);
        Due.is("19: fewest(1)", x.fewest(1), who);
        Due.is("19: fewest(2)", x.fewest(2), -1);
        Due.is("19: fewest(-1)", x.fewest(-1), -1);
    }

    private static void promise19() {
        fewests(new MaidsMemory(), -2, -2);
        MaidsMemory x = gossip();
        fewests(x, 1, 4);
        x.mend(11, 0, 0);
        fewests(x, 2, 3);
        x.mend(3, 0, 1);
        fewests(x, -2, -2);
        // Girl 1 alone is fewer than girls 0 and 1, though these bits are less for others.
        x.mend(3, 0, 0);
        x.mend(0, 0, 0);
        fewests(x, 1, 2);
        x.mend(11, 0, 1);
        fewests(x, 1, 2);
        x.mend(2, 0, 0);
        fewests(x, 1, 4);
    }

    private static void trains(MaidsMemory x, int how, int... train) {
        Due.is("20: trains(-1)", x.trains(-1), how);
        for (int k = 0; k < train.length; k++) {
            Due.is("20: trains(" + k + ")", x.trains(k), train[k]);
        }
        Due.is("20: trains(girls)", x.trains(train.length), -1);
        Due.is("20: trains(-2)", x.trains(-2), -1);
        Due.is("20: trains(max)", x.trains(Integer.MAX_VALUE), -1);
        Due.is("20: trains(min)", x.trains(Integer.MIN_VALUE), -1);
    }

    private static void promise20() {
        trains(new MaidsMemory(), 0);
        MaidsMemory x = gossip();
        trains(x, -2, -2, -2, -2);
        x.mend(11, 0, 0);
        trains(x, 2, 0, 1, 0);
        x.mend(0, 0, 0);
        x.mend(2, 0, 0);
        trains(x, 1, 0, 0, 0);
    }

    /** Houses of two sorts each, half of which girl p has and half girl q. */
    private static MaidsMemory pairs(int girls, int[][] both) {
        MaidsMemory x = new MaidsMemory();
        for (int girl = 0; girl < girls; girl++) {
            x.girl(99, 0);
        }
        for (int[] pair : both) {
            int house = x.house();
            x.mend(10 * house, 0, 1);
            x.mend(pair[0], 4, house);
            x.day();
            x.mend(10 * house, 0, 0);
            x.mend(pair[0], 4, -1);
            x.mend(10 * house + 3, 0, 1);
            x.mend(pair[1], 4, house);
            x.day();
            x.mend(10 * house + 3, 0, 0);
            x.mend(pair[1], 4, -1);
        }
        for (int house = 0; house < both.length; house++) {
            x.mend(10 * house, 0, 1);
            x.mend(10 * house + 3, 0, 1);
        }
        return x;
    }

    private static void promise20More() {
        trains(pairs(3, new int[][] {{0, 1}, {0, 2}, {1, 2}}), 3, 0, 1, 2);
        // Girls 0 and 1 may go together, but then girl 2 needs a train of her own, and girl 3 one more.
        trains(pairs(4, new int[][] {{0, 2}, {1, 3}, {2, 3}}), 2, 0, 1, 1, 0);
        trains(pairs(4, new int[][] {{0, 3}, {1, 2}}), 2, 0, 0, 1, 1);
        trains(pairs(4, new int[][] {{0, 1}}), 2, 0, 1, 0, 0);
        trains(pairs(3, new int[][] {{0, 1}, {2, 2}}), -2, -2, -2, -2);
        // One journey says nothing of the next one.
        MaidsMemory x = pairs(3, new int[][] {{0, 1}, {0, 2}, {1, 2}});
        for (int house = 0; house < 3; house++) {
            for (int other = 0; other < 3; other++) {
                x.mend(10 * other, 0, house == other ? 1 : 0);
                x.mend(10 * other + 3, 0, house == other ? 1 : 0);
            }
            trains(x, 2, 0, house == 0 ? 1 : 0, house == 0 ? 0 : 1);
        }
    }

    private static void heard(MaidsMemory x, int sets, int least, int certain) {
        Due.is("21: voices(0, 0)", x.voices(0, 0), sets);
        Due.is("21: voices(0, 1)", x.voices(0, 1), least);
        Due.is("21: voices(0, 2)", x.voices(0, 2), certain);
    }

    private static void promise21() {
        // Of all houses together, by sorts: girl 0 has 3, 0, 0, 0; girl 1 0, 0, 2, 0; girl 2 0, 1, 0, 0.
        MaidsMemory x = gossip();
        Due.row(x, 0, 1, 3, 0, 2, 0);
        heard(x, 1, 3, 3);
        Due.row(x, 0, 1, 3, 1, 2, 0);
        heard(x, 1, 7, 7);
        Due.row(x, 0, 1, 0, 0, 0, 0);
        heard(x, 1, 0, 0);
        Due.row(x, 0, 1, 3, 0, 2, 1);
        heard(x, 0, -2, 0);
        Due.row(x, 0, 1, -3, 0, 2, 0);
        heard(x, 0, -2, 0);
        x.girl(9, 0);
        Due.row(x, 0, 1, 3, 0, 2, 0);
        heard(x, 2, 3, 3);
        // Another girl with 1 of sort 1, of another house: either may be it, girl 1 is in all.
        x.mend(3, 4, 2);
        x.mend(21, 0, 1);
        x.mend(0, 4, -1);
        x.mend(1, 4, -1);
        x.mend(2, 4, -1);
        x.day();
        Due.row(x, 0, 1, 0, 1, 2, 0);
        heard(x, 2, 6, 2);
        Due.row(x, 0, 1, 0, 1, 0, 0);
        heard(x, 2, 4, 0);
        Due.row(x, 0, 1, 0, 2, 0, 0);
        heard(x, 1, 12, 12);
    }

    private static void promise21Refused() {
        MaidsMemory x = gossip();
        Due.is("21: voices(-1, 0)", x.voices(-1, 0), -1);
        Due.is("21: voices(6, 0)", x.voices(6, 0), -1);
        Due.is("21: voices(0, 3)", x.voices(0, 3), -1);
        Due.is("21: voices(0, -1)", x.voices(0, -1), -1);
        Due.is("21: nothing there", x.voices(0, 0), -11);
        x.body(0);
        x.keep(0, 0);
        Due.is("21: a grate", x.voices(0, 0), -12);
        Due.is("21: a grate, BAD is named first", x.voices(0, 3), -1);
        for (int sort = 0; sort <= 4; sort++) {
            x.row(0, sort, 4);
            Due.is("21: four of sort " + sort, x.voices(0, 0), sort == 1 ? 1 : -12);
            x.row(0, sort, 5);
            Due.is("21: five of sort " + sort, x.voices(0, 0), -1);
            x.row(0, sort, 0);
            Due.is("21: none of sort " + sort, x.voices(0, 0), -1);
        }
    }

    private static void promise22() {
        MaidsMemory x = gossip();
        Due.is("22: nothing there", x.judge(0, 0), -11);
        Due.row(x, 0, 0, 3, 0, 0, 0);
        Due.is("22: just so", x.judge(0, 0), -2);
        Due.is("22: of another girl", x.judge(0, 1), 0);
        Due.row(x, 0, 0, 3, 0, 0, 1);
        Due.is("22: the first that is not so", x.judge(0, 0), 3);
        Due.row(x, 0, 0, 3);
        Due.is("22: a short row", x.judge(0, 0), -2);
        x.row(0, 0, 0);
        Due.is("22: an empty row", x.judge(0, 0), -2);
        Due.row(x, 0, 0, 0, 0, 0, 0, 0, 1, 0, 0, 0, 0, 0, 0);
        Due.is("22: house by house", x.judge(0, 2), -2);
        Due.is("22: house by house", x.judge(0, 0), 0);
        Due.row(x, 0, 0, 0, 0, 0, 0, 0, 1, 0, 0, 0, 0, 0, 0, 0);
        Due.is("22: of a house that is not there", x.judge(0, 2), 12);
        x.row(0, 0, 60);
        Due.is("22: what she has first", x.judge(0, 1), 2);
        x.put(0, 2, 2);
        Due.is("22: of a house that is not there", x.judge(0, 1), 12);
        for (int sort = 1; sort <= 4; sort++) {
            x.row(0, sort, 4);
            Due.is("22: a row of sort " + sort, x.judge(0, 0), -12);
        }
        x.body(0);
        x.keep(0, 0);
        Due.is("22: a grate", x.judge(0, 0), -12);
        int[][] bad = {{-1, 0}, {6, 0}, {0, 3}, {0, -1}, {1, 3}};
        for (int[] call : bad) {
            Due.is("22: judge(" + call[0] + ", " + call[1] + ")", x.judge(call[0], call[1]), -1);
        }
    }

    private static void promise23() {
        MaidsMemory x = gossip();
        Due.is("23: bill(0, 100)", x.bill(0, 100), 83);
        Due.is("23: bill(1, 100)", x.bill(1, 100), 16);
        Due.is("23: bill(2, 100)", x.bill(2, 100), 0);
        Due.is("23: bill(0, 9999)", x.bill(0, 9999), 8332);
        Due.is("23: bill(0, 1)", x.bill(0, 1), 0);
        Due.is("23: bill(0, 0)", x.bill(0, 0), 0);
        int[][] bad = {{3, 1}, {-1, 1}, {0, -1}, {0, 10000}};
        for (int[] call : bad) {
            Due.is("23: bill(" + call[0] + ", " + call[1] + ")", x.bill(call[0], call[1]), -1);
        }
        MaidsMemory y = new MaidsMemory();
        y.house();
        Due.is("23: nobody has any", y.bill(0, 9999), 0);
    }

    private static void promise24() {
        MaidsMemory x = new MaidsMemory();
        Due.is("24: no houses", x.most(), -2);
        x.house();
        x.house();
        x.house();
        Due.is("24: of none", x.most(), -2);
        x.girl(50, 0);
        x.girl(50, 0);
        x.hire(0, 1);
        x.hire(1, 2);
        x.mend(10, 0, 2);
        x.mend(20, 0, 1);
        x.mend(23, 0, 1);
        x.day();
        Due.is("24: of like ones the least", x.most(), 1);
        x.mend(10, 0, 1);
        x.day();
        Due.is("24: of whom most is had", x.most(), 2);
    }

    private static void turns(MaidsMemory x, int ab, int n, int that, int who) {
        Due.is("25: byTurns(" + ab + ", " + n + ", 0)", x.byTurns(ab, n, 0), that);
        Due.is("25: byTurns(" + ab + ", " + n + ", 1)", x.byTurns(ab, n, 1), who);
    }

    private static void promise25() {
        MaidsMemory x = new MaidsMemory();
        for (int i = 0; i < 4; i++) {
            x.house();
        }
        turns(x, 1, 1, 0, 7);
        turns(x, 1, 4, 0, 7);
        x.girl(5, 0);
        turns(x, 1, 1, 5, 0);
        turns(x, 32, 4, 5, 0);
        x.girl(9, 0);
        turns(x, 1, 1, 9, 1);
        turns(x, 1, 2, 4, 1);
        turns(x, 10, 3, 4, 1);
        x.girl(9, 0);
        turns(x, 1, 1, 9, 1);
        turns(x, 1, 2, 0, 1);
        // Girl 0 first, then one of 9 is left for it all the same: of like ones the least.
        turns(x, 1, 3, 5, 0);
        x.hire(1, 3);
        turns(x, 1, 2, 4, 2);
        turns(x, 23, 2, 4, 2);
        x.hire(0, 3);
        x.hire(2, 3);
        turns(x, 1, 3, 0, 7);
    }

    private static void promise25Worth() {
        MaidsMemory x = new MaidsMemory();
        x.house();
        x.house();
        x.house();
        x.girl(20, 0);
        x.girl(10, 0);
        x.mend(0, 4, 1);
        x.mend(10, 0, 6);
        x.day();
        x.mend(0, 4, -1);
        // Girl 0: of 20 she has 6, all of house 1: to house 0 she is worth 14 - 12, to the others 14.
        turns(x, 1, 1, 10, 1);
        turns(x, 10, 1, 14, 0);
        // House 1 hires girl 1: girl 0 is worth little to house 0.
        turns(x, 10, 2, 8, 1);
        turns(x, 1, 2, -4, 1);
        turns(x, 2, 1, 14, 0);
        turns(x, 21, 1, 10, 1);
        x.hire(1, 2);
        turns(x, 1, 1, 2, 0);
        turns(x, 1, 2, 2, 0);
        x.mend(0, 2, 18);
        // Worth nothing to house 0, but 12 to house 1: it hires her so that the other one can't.
        turns(x, 1, 1, 0, 7);
        turns(x, 1, 2, 0, 0);
        x.mend(0, 2, 4);
        turns(x, 1, 4, 0, 7);
        turns(x, 10, 4, 0, 7);
        x.mend(0, 2, 17);
        turns(x, 1, 2, -1, 0);
    }

    /** One who is HIRED, in deed or by a turn ahead, is not asked again, though her number is less. */
    private static void promise25Free() {
        MaidsMemory x = new MaidsMemory();
        for (int i = 0; i < 3; i++) {
            x.house();
        }
        x.girl(50, 0);
        x.girl(20, 0);
        x.girl(5, 0);
        turns(x, 1, 1, 50, 0);
        turns(x, 1, 2, 30, 0);
        turns(x, 1, 3, 35, 0);
        turns(x, 1, 4, 35, 0);
        x.hire(0, 2);
        turns(x, 1, 1, 20, 1);
        turns(x, 1, 2, 15, 1);
        turns(x, 1, 3, 15, 1);
        x.hire(1, 0);
        turns(x, 1, 1, 5, 2);
        turns(x, 10, 4, 5, 2);
    }

    private static void promise25Refused() {
        MaidsMemory x = new MaidsMemory();
        x.house();
        x.house();
        x.girl(5, 0);
        int[][] bad = {
            {0, 1, 0}, {11, 1, 0}, {2, 1, 0}, {20, 1, 0}, {12, 1, 0}, {-1, 1, 0}, {-10, 1, 0}, {101, 1, 0}, {1, 0, 0},
            {1, 5, 0}, {1, -1, 0}, {1, 1, 2}, {1, 1, -1}, {Integer.MIN_VALUE, 1, 0}, {Integer.MAX_VALUE, 1, 0}};
        for (int[] call : bad) {
            String told = "25: byTurns(" + call[0] + ", " + call[1] + ", " + call[2] + ")";
            Due.is(told, x.byTurns(call[0], call[1], call[2]), VOID);
        }
        Due.is("25: byTurns(1, 1, 1)", x.byTurns(1, 1, 1), 0);
    }

    /** All that is drawn for so many houses, where nobody takes any. */
    private static int allDraws(int seed, int days, int houses) {
        int z = seed;
        int all = 0;
        for (int i = 0; i < days * houses * 4; i++) {
            z = z * 1103515245 + 12345;
            all += (z >>> 8) % 10;
        }
        return all;
    }

    private static void promise26() {
        MaidsMemory x = new MaidsMemory();
        Due.is("26: no houses", x.drawn(1, 101, 0), 0);
        x.house();
        x.mend(0, 1, 77);
        x.mend(0, 0, 9);
        x.girl(99, 0);
        int[] seeds = {0, 1, -1, 5, 123456789, Integer.MIN_VALUE, Integer.MAX_VALUE};
        for (int seed : seeds) {
            Due.is("26: a day", x.drawn(seed, 101, 0), allDraws(seed, 1, 1));
            Due.is("26: a month", x.drawn(seed, 140, 0), allDraws(seed, 40, 1));
            Due.is("26: months draw on", x.drawn(seed, 3007, 0), allDraws(seed, 210, 1));
        }
        Due.is("26: the first day by hand", x.drawn(0, 101, 0), 8 + 8 + 5 + 8);
        x.house();
        x.house();
        Due.is("26: three houses", x.drawn(9, 513, 0), allDraws(9, 65, 3));
        x.mend(0, 1, 9999);
        x.mend(1, 1, 9999);
        x.mend(2, 1, 9998);
        Due.is("26: no more clutter than can be", x.drawn(9, 440, 0), 4);
        Due.is("26: nobody is full", x.drawn(9, 440, 1), 0);
        Due.is("26: in thought alone", x.led(0), 0);
        Due.is("26: PUTS is as it was", x.of(0, 0), 9);
    }

    private static void promise26Girls() {
        MaidsMemory x = new MaidsMemory();
        x.house();
        x.girl(1, 0);
        x.girl(99, 0);
        x.girl(1, 1);
        x.hire(0, 0);
        x.hire(1, 0);
        x.mend(0, 5, 0);
        Due.is("26: one is full at each end", x.drawn(3, 3002, 1), 30);
        Due.is("26: both are full at each end", x.drawn(3, 3040, 1), 60);
        Due.is("26: what they can't take", x.drawn(3, 140, 0), allDraws(3, 40, 1) - 100);
        Due.law(x, "0");
        Due.is("26: by the law", x.drawn(3, 3040, 1), 0);
        x.day();
        Due.law(x, "a");
        x.mend(0, 0, 5);
        x.day();
        Due.is("26: from now", x.drawn(3, 201, 1), 2);
    }

    private static void promise26Refused() {
        MaidsMemory x = new MaidsMemory();
        x.house();
        int[][] bad = {
            {0, 100, 0}, {0, 141, 0}, {0, 199, 0}, {0, 1, 0}, {0, 40, 0}, {0, 3101, 0}, {0, 3000, 0}, {0, -101, 0},
            {0, 101, 2}, {0, 101, -1}, {0, Integer.MIN_VALUE, 0}, {0, Integer.MAX_VALUE, 0}, {0, 0, 0}};
        for (int[] call : bad) {
            String told = "26: drawn(" + call[0] + ", " + call[1] + ", " + call[2] + ")";
            Due.is(told, x.drawn(call[0], call[1], call[2]), -1);
        }
        Due.is("26: the least", x.drawn(0, 101, 1), 0);
        Due.is("26: the greatest", x.drawn(0, 3040, 1), 0);
    }
}
