import java.lang.management.ManagementFactory;

/** No arguments make a call throw, in any state; and a run of calls makes little. */
public final class RoomTest {
    private static final int CALLS = 512;
    private static final int[] EDGES = {
        Integer.MIN_VALUE, Integer.MIN_VALUE + 1, -2000000000, -101, -10, -3, -2, -1, 0, 1, 2, 3, 4, 5, 6, 7, 8, 9, 10, 11, 13,
        20, 23, 40, 49, 50, 52, 53, 59, 60, 61, 97, 98, 99, 100, 101, 119, 120, 127, 128, 140, 255, 256, 999, 1000, 3040, 3101,
        9999, 10000, 32768, Integer.MAX_VALUE - 1, Integer.MAX_VALUE};
    private static int z = 77;

    public static void main(String[] args) {
        for (int run = 0; run < 1500; run++) {
            MaidsMemory x = new MaidsMemory();
            for (int i = 0; i < CALLS; i++) {
                call(x, draw(45), run % 3);
            }
        }
        made();
        Due.holds("no call threw", true);
        Due.end("RoomTest");
    }

    /** What 512 calls of every kind make: nothing at all, but for what the host itself puts aside. */
    private static void made() {
        com.sun.management.ThreadMXBean threads = (com.sun.management.ThreadMXBean) ManagementFactory.getThreadMXBean();
        long self = Thread.currentThread().getId();
        MaidsMemory x = new MaidsMemory();
        threads.getThreadAllocatedBytes(self);
        long before = threads.getThreadAllocatedBytes(self);
        for (int i = 0; i < CALLS; i++) {
            call(x, draw(45), i % 3);
        }
        long calls = threads.getThreadAllocatedBytes(self) - before;
        Due.holds("512 calls made " + calls + " bytes", calls < 2000);
        before = threads.getThreadAllocatedBytes(self);
        MaidsMemory y = new MaidsMemory();
        long made = threads.getThreadAllocatedBytes(self) - before;
        Due.holds("an object took " + made + " bytes", made < 40000 && y.count(0) == 0);
    }

    private static int draw(int n) {
        z = z * 1664525 + 1013904223;
        return (z >>> 8) % n;
    }

    /** An argument: an edge, or a small number, as the run goes. */
    private static int any(int how) {
        return how == 0 || draw(8) == 0 ? EDGES[draw(EDGES.length)] : draw(how == 1 ? 5 : 30);
    }

    private static void call(MaidsMemory x, int which, int how) {
        int a = any(how);
        int b = any(how);
        int c = any(how);
        if (which < 15) {
            early(x, which, a, b, c);
        } else if (which < 30) {
            middle(x, which, a, b, c);
        } else {
            late(x, which, a, b, c, how);
        }
    }

    private static void early(MaidsMemory x, int which, int a, int b, int c) {
        switch (which) {
            case 0: x.house(); return;
            case 1: x.girl(a, b); return;
            case 2: x.girls(a, b, c); return;
            case 3: x.mend(a, b, c); return;
            case 4: x.of(a, b); return;
            case 5: x.has(a, b); return;
            case 6: x.feed("a|f&r<s+h*g(!-12;?)".charAt(draw(19))); return;
            case 7: x.law(); return;
            case 8: x.later(a, b, c); return;
            case 9: x.knows(a, b, c); return;
            case 10: x.first(a, b); return;
            case 11: x.week(a); return;
            case 12: x.pack(a); return;
            case 13: x.whose(); return;
            default: x.hires(a, b, c); return;
        }
    }

    private static void middle(MaidsMemory x, int which, int a, int b, int c) {
        switch (which) {
            case 15: x.spare(a); return;
            case 16: x.given(a); return;
            case 17: x.fewest(a); return;
            case 18: x.trains(a); return;
            case 19: x.voices(a, b); return;
            case 20: x.judge(a, b); return;
            case 21: x.bill(a, b); return;
            case 22: x.most(); return;
            case 23: x.byTurns(a, b, c); return;
            case 24: x.drawn(a, b, c); return;
            case 25: x.day(); return;
            case 26: x.hire(a, b); return;
            case 27: x.letGo(a); return;
            case 28: x.sweep(a); return;
            default: x.led(a); return;
        }
    }

    private static void late(MaidsMemory x, int which, int a, int b, int c, int how) {
        switch (which) {
            case 30: x.image(); return;
            case 31: x.back(); return;
            case 32: x.undo(); return;
            case 33: x.redo(); return;
            case 34: x.body(a); return;
            case 35: x.act(a, b, c); return;
            case 36: x.trace(a); return;
            case 37: x.keep(a, b); return;
            case 38: x.row(a, b, c); return;
            case 39: x.put(a, b, (long) a * c); return;
            case 40: x.element(a, b); return;
            case 41: x.shift(a, b, c, any(how), any(how)); return;
            case 42: x.taken(a, b); return;
            case 43: x.count(a); return;
            default: x.feed(a); return;
        }
    }
}
