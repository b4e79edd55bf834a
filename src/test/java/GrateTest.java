/** Promises 36 to 38: grates of all kinds, their acts, the trace. */
public final class GrateTest {
    private static final int HOLDS = 0, TELLS_OUT = 1, SPILLS = 2, SAYS = 3;

    public static void main(String[] args) {
        promise36();
        promise37Holds();
        promise37TellsOut();
        promise37Spills();
        promise37Says();
        promise37Numbers();
        promise37Wraps();
        promise37None();
        promise38();
        Due.end("GrateTest");
    }

    private static void promise36() {
        MaidsMemory x = new MaidsMemory();
        Due.is("36: body(-1)", x.body(-1), -1);
        Due.is("36: body(8)", x.body(8), -1);
        Due.is("36: body(max)", x.body(Integer.MAX_VALUE), -1);
        for (int i = 0; i < 50; i++) {
            Due.is("36: body()", x.body(i % 8), i);
        }
        Due.is("36: body() when full", x.body(0), -3);
        Due.is("36: body(8) when full: BAD is named first", x.body(8), -1);
        Due.is("36: count(4)", x.count(4), 50);
        for (int i = 0; i < 50; i++) {
            x.keep(0, i);
            Due.is("36: its KIND", x.taken(0, 0), i % 8);
        }
    }

    /** Bodies 0 to 7 of kinds 0 to 7. */
    private static MaidsMemory allKinds() {
        MaidsMemory x = new MaidsMemory();
        for (int kind = 0; kind < 8; kind++) {
            x.body(kind);
        }
        return x;
    }

    private static void acts(int body, int act, int x, int due, int... trace) {
        MaidsMemory street = allKinds();
        street.act(7, 3, 1);
        String told = "37: act(" + body + ", " + act + ", " + x + ")";
        Due.is(told, street.act(body, act, x), due);
        Due.is(told + ": how many ran", street.count(5), trace.length);
        for (int i = 0; i < trace.length; i++) {
            Due.is("38: trace(" + i + ") of " + told, street.trace(i), trace[i]);
        }
        Due.is("38: trace() behind the last of " + told, street.trace(trace.length), -1);
    }

    private static void promise37Holds() {
        acts(0, HOLDS, 5, 5, 1);
        acts(1, HOLDS, 5, 9, 20, 1);
        acts(2, HOLDS, 5, 7, 1);
        acts(3, HOLDS, 5, 8, 1);
        acts(4, HOLDS, 5, 12, 20, 1);
        acts(5, HOLDS, 5, 10, 1);
        acts(6, HOLDS, 5, 22, 70, 1);
        acts(7, HOLDS, 5, 15, 20, 1);
    }

    private static void promise37TellsOut() {
        acts(0, TELLS_OUT, 5, 10, 10, 1);
        acts(1, TELLS_OUT, 5, 18, 10, 20, 1);
        acts(2, TELLS_OUT, 5, -14, 30, 10, 1);
        acts(3, TELLS_OUT, 5, -18, 41, 30, 10, 1);
        acts(4, TELLS_OUT, 5, 24, 10, 20, 1);
        acts(5, TELLS_OUT, 5, -22, 41, 30, 10, 1);
        acts(6, TELLS_OUT, 5, 44, 10, 70, 1);
        acts(7, TELLS_OUT, 5, 23, 80, 10, 20, 1, 50, 11, 20, 1);
    }

    private static void promise37Spills() {
        acts(0, SPILLS, 5, 5, 11);
        acts(1, SPILLS, 5, 4, 11);
        acts(2, SPILLS, 5, 7, 11);
        acts(3, SPILLS, 5, 18, 40, 11);
        acts(4, SPILLS, 5, -8, 50, 11, 20, 1);
        acts(5, SPILLS, 5, 0, 40, 11);
        acts(6, SPILLS, 5, 3, 11);
        acts(7, SPILLS, 5, -10, 50, 11, 20, 1);
    }

    private static void promise37Says() {
        acts(0, SAYS, 5, 9, 2, 10, 1, 11);
        acts(1, SAYS, 5, 18, 2, 10, 20, 1, 11);
        acts(2, SAYS, 5, -17, 2, 30, 10, 1, 11);
        acts(3, SAYS, 5, -24, 2, 41, 30, 10, 1, 40, 11);
        acts(4, SAYS, 5, 28, 2, 10, 20, 1, 50, 11, 20, 1);
        acts(5, SAYS, 5, -37, 60, 2, 41, 30, 10, 1, 40, 11);
        acts(6, SAYS, 5, 37, 2, 10, 70, 1, 11);
        acts(7, SAYS, 5, 28, 81, 2, 80, 10, 20, 1, 50, 11, 20, 1, 50, 11, 20, 1);
    }

    private static void promise37Numbers() {
        MaidsMemory x = new MaidsMemory();
        for (int i = 0; i < 50; i++) {
            x.body(1);
        }
        Due.is("37: n is its number", x.act(49, HOLDS, 0), 52);
        Due.is("37: n is its number", x.act(20, HOLDS, 100), 123);
        Due.is("37: n is its number", x.act(33, SPILLS, 1), 32);
    }

    private static void promise37Wraps() {
        MaidsMemory x = allKinds();
        Due.is("37: x + n wraps", x.act(2, HOLDS, Integer.MAX_VALUE), Integer.MIN_VALUE + 1);
        Due.is("37: times 2 wraps", x.act(0, TELLS_OUT, Integer.MIN_VALUE), 0);
        Due.is("37: x + 1 wraps", x.act(3, TELLS_OUT, Integer.MAX_VALUE), -6);
        Due.is("37: times 3 wraps", x.act(3, SPILLS, Integer.MAX_VALUE), (Integer.MAX_VALUE ^ 3) * 3);
        Due.is("37: below 0", x.act(1, HOLDS, -100), -96);
    }

    private static void promise37None() {
        MaidsMemory x = allKinds();
        int[][] none = {{8, 0}, {-1, 0}, {0, 4}, {0, -1}, {Integer.MAX_VALUE, 0}, {0, Integer.MIN_VALUE}};
        for (int[] call : none) {
            x.act(7, 3, 1);
            Due.is("37: act(" + call[0] + ", " + call[1] + ", 5)", x.act(call[0], call[1], 5), 0);
            Due.is("37: no trace then", x.count(5), 0);
            Due.is("37: no trace then", x.trace(0), -1);
        }
    }

    private static void promise38() {
        MaidsMemory x = allKinds();
        Due.is("38: no act yet", x.trace(0), -1);
        x.act(1, HOLDS, 5);
        Due.is("38: trace(0)", x.trace(0), 20);
        Due.is("38: trace(1)", x.trace(1), 1);
        Due.is("38: trace(2)", x.trace(2), -1);
        Due.is("38: trace(-1)", x.trace(-1), -1);
        Due.is("38: trace(24)", x.trace(24), -1);
        Due.is("38: trace(max)", x.trace(Integer.MAX_VALUE), -1);
        Due.is("38: trace(min)", x.trace(Integer.MIN_VALUE), -1);
        x.body(0);
        Due.is("38: the latest act's, still", x.trace(0), 20);
        x.act(0, SPILLS, 5);
        Due.is("38: the latest act's", x.trace(0), 11);
        Due.is("38: the latest act's", x.trace(1), -1);
    }
}
