import java.util.ArrayList;
import java.util.List;

/** The street once more, as plainly as it can be told: slow, with the host's own arrays, classes and refusals. */
final class Model {
    private static final int VOID = -2000000000;

    /** What days change, and what they go by. */
    private static final class State {
        int houses;
        int girls;
        int weekday;
        int[][] puts = new int[6][4];
        int[] clutter = new int[6];
        int[] room = new int[7];
        int[] hill = new int[7];
        int[] hired = new int[7];
        int[][][] has = new int[7][6][4];
        int[] holds = {100, 100, 100, 100};
        int[] heard = new int[4];
        int[] led = new int[6];

        State copy() {
            State s = new State();
            s.houses = houses;
            s.girls = girls;
            s.weekday = weekday;
            s.clutter = clutter.clone();
            s.room = room.clone();
            s.hill = hill.clone();
            s.hired = hired.clone();
            s.holds = holds.clone();
            s.heard = heard.clone();
            s.led = led.clone();
            for (int h = 0; h < 6; h++) {
                s.puts[h] = puts[h].clone();
                for (int g = 0; g < 7; g++) {
                    s.has[g][h] = has[g][h].clone();
                }
            }
            return s;
        }

        int all(int g) {
            int f = 0;
            for (int h = 0; h < 6; h++) {
                for (int s = 0; s < 4; s++) {
                    f += has[g][h][s];
                }
            }
            return f;
        }

        int of(int g, int h) {
            int f = 0;
            for (int s = 0; s < 4; s++) {
                f += has[g][h][s];
            }
            return f;
        }

        int clutterOfAll() {
            int sum = 0;
            for (int c : clutter) {
                sum += c;
            }
            return sum;
        }

        int pass(String law, int[][] amounts) {
            int came = 0;
            for (int h = 0; h < houses; h++) {
                for (int s = 0; s < 4; s++) {
                    int left = amounts[h][s];
                    for (int g = 0; g < girls; g++) {
                        if (hired[g] != h) {
                            continue;
                        }
                        int f = all(g);
                        int wanted = law == null ? left : lines(law, new int[] {left, f, room[g], s, h, g});
                        int takes = wanted > left ? left : wanted;
                        takes = takes > room[g] - f ? room[g] - f : takes;
                        takes = takes < 0 ? 0 : takes;
                        has[g][h][s] += takes;
                        left -= takes;
                        led[1] += takes;
                    }
                    int before = clutter[h];
                    clutter[h] = before + left > 9999 ? 9999 : before + left;
                    came += clutter[h] - before;
                }
            }
            led[0]++;
            led[2] += came;
            weekday = (weekday + 1) % 7;
            for (int g = 0; weekday == 0 && g < girls; g++) {
                for (int h = 0; h < houses; h++) {
                    for (int s = 0; s < 4; s++) {
                        while (has[g][h][s] > 0 && heard[hill[g]] < holds[hill[g]]) {
                            has[g][h][s]--;
                            heard[hill[g]]++;
                            led[3]++;
                        }
                    }
                }
            }
            return came;
        }
    }

    // ---- laws: a fault by a scan of states, a value by splitting at the loosest sign

    static int fault(String t) {
        List<int[]> frames = new ArrayList<>();
        frames.add(new int[] {0, 0});
        boolean wants = true;
        boolean asked = false;
        int digits = 0;
        for (int i = 0; i < t.length(); i++) {
            char c = t.charAt(i);
            int[] frame = frames.get(frames.size() - 1);
            boolean outermost = frames.size() == 1;
            boolean digit = c >= '0' && c <= '9';
            if (wants) {
                int open = frames.size() - 1;
                for (int[] each : frames) {
                    open += each[1];
                }
                if (digit || "afrshg".indexOf(c) >= 0) {
                    wants = false;
                    frame[1] = 0;
                    digits = digit ? 1 : 0;
                } else if ("(!-".indexOf(c) < 0 || open >= 6) {
                    return i;
                } else if (c == '(') {
                    frames.add(new int[] {0, 0});
                } else {
                    frame[1]++;
                }
                continue;
            }
            if (digit && digits > 0 && digits < 4) {
                digits++;
                continue;
            }
            digits = 0;
            if (c == ')' && !outermost) {
                frames.remove(frames.size() - 1);
                frames.get(frames.size() - 1)[1] = 0;
                continue;
            }
            wants = true;
            if (c == '|' || c == '&') {
                frame[0] = 0;
            } else if ((c == '<' || c == '=' || c == '>') && frame[0] == 0) {
                frame[0] = 1;
            } else if (c == '?' && outermost && !asked) {
                asked = true;
                frame[0] = 0;
            } else if (c == ';' && outermost) {
                asked = false;
                frame[0] = 0;
            } else if ("+-*/%".indexOf(c) < 0) {
                return i;
            }
        }
        return wants || frames.size() > 1 ? t.length() : -1;
    }

    private static int lines(String law, int[] names) {
        for (String line : law.split(";")) {
            int at = line.indexOf('?');
            if (at < 0) {
                return value(line, names);
            }
            if (value(line.substring(0, at), names) != 0) {
                return value(line.substring(at + 1), names);
            }
        }
        return 0;
    }

    private static int value(String e, int[] names) {
        for (String signs : new String[] {"|", "&", "<=>", "+-", "*/%"}) {
            int at = lastOf(e, signs);
            if (at > 0) {
                return joined(value(e.substring(0, at), names), e.charAt(at), value(e.substring(at + 1), names));
            }
        }
        if (e.charAt(0) == '!') {
            return value(e.substring(1), names) == 0 ? 1 : 0;
        }
        if (e.charAt(0) == '-') {
            return -value(e.substring(1), names);
        }
        if (e.charAt(0) == '(') {
            return value(e.substring(1, e.length() - 1), names);
        }
        int name = "afrshg".indexOf(e.charAt(0));
        return name >= 0 ? names[name] : Integer.parseInt(e);
    }

    private static int lastOf(String e, String signs) {
        int depth = 0;
        for (int i = e.length() - 1; i > 0; i--) {
            char c = e.charAt(i);
            depth += c == ')' ? 1 : c == '(' ? -1 : 0;
            boolean joins = "|&<=>+-*/%!(".indexOf(e.charAt(i - 1)) < 0;
            if (depth == 0 && joins && signs.indexOf(c) >= 0) {
                return i;
            }
        }
        return -1;
    }

    private static int joined(int left, char sign, int right) {
        switch (sign) {
            case '|': return left != 0 | right != 0 ? 1 : 0;
            case '&': return left != 0 & right != 0 ? 1 : 0;
            case '<': return left < right ? 1 : 0;
            case '=': return left == right ? 1 : 0;
            case '>': return left > right ? 1 : 0;
            case '+': return left + right;
            case '-': return left - right;
            case '*': return left * right;
            case '/': return right == 0 ? 0 : (int) ((long) left / right);
            default: return right == 0 ? 0 : (int) ((long) left % right);
        }
    }

    // ---- grates, by the host's own classes

    private interface Holds {
        int number();

        List<Integer> ran();

        default int holds(int x) {
            ran().add(1);
            return x + number();
        }
    }

    private interface Says extends Holds {
        int tellsOut(int x);

        int spills(int x);

        default int says(int x) {
            ran().add(2);
            return tellsOut(x) - spills(1);
        }
    }

    private static class Grate implements Holds, Says {
        int n;
        int kind;
        List<Integer> list;

        public int number() {
            return n;
        }

        public List<Integer> ran() {
            return list;
        }

        public int holds(int x) {
            return Says.super.holds(x);
        }

        public int says(int x) {
            return Says.super.says(x);
        }

        public int tellsOut(int x) {
            list.add(10);
            return holds(x) * 2;
        }

        public int spills(int x) {
            list.add(11);
            return x ^ n;
        }
    }

    private static class Girl extends Grate {
        public int holds(int x) {
            list.add(20);
            return super.holds(x) + 3;
        }
    }

    private static class Hill extends Grate {
        public int tellsOut(int x) {
            list.add(30);
            return -super.tellsOut(x);
        }
    }

    private static class Sheep extends Hill {
        public int spills(int x) {
            list.add(40);
            return super.spills(x) * 3;
        }

        public int tellsOut(int x) {
            list.add(41);
            return super.tellsOut(x + 1);
        }
    }

    private static class Apron extends Girl {
        public int spills(int x) {
            list.add(50);
            return super.spills(x) - holds(2);
        }
    }

    private static class Train extends Sheep {
        public int says(int x) {
            list.add(60);
            return super.says(x) ^ 5;
        }
    }

    private static class Doctor extends Grate {
        public int holds(int x) {
            list.add(70);
            return super.holds(x) * 2;
        }
    }

    private static class Bess extends Apron {
        public int tellsOut(int x) {
            list.add(80);
            return super.tellsOut(x) + spills(2);
        }

        public int says(int x) {
            list.add(81);
            return super.says(x) - 1;
        }
    }

    private static Grate grate(int kind) {
        switch (kind) {
            case 0: return new Grate();
            case 1: return new Girl();
            case 2: return new Hill();
            case 3: return new Sheep();
            case 4: return new Apron();
            case 5: return new Train();
            case 6: return new Doctor();
            default: return new Bess();
        }
    }

    private static final Class<?>[] KINDS = {
        Grate.class, Girl.class, Hill.class, Sheep.class, Apron.class, Train.class, Doctor.class, Bess.class};

    // ---- the street

    private State now = new State();
    private State image;
    private String law;
    private String tape = "";
    private final List<int[]> done = new ArrayList<>();
    private final List<int[]> undone = new ArrayList<>();
    private final List<Grate> grates = new ArrayList<>();
    private List<Integer> ran = new ArrayList<>();
    private final Object[] shelves = new Object[6];

    private boolean house(int h) {
        return h >= 0 && h < now.houses;
    }

    private boolean girl(int g) {
        return g >= 0 && g < now.girls;
    }

    private boolean cell(int hs) {
        return hs >= 0 && house(hs / 10) && hs % 10 < 4;
    }

    private static boolean span(int n) {
        return n >= 0 && n <= 60;
    }

    private State behind(int n) {
        State s = now.copy();
        for (int i = 0; i < n; i++) {
            s.pass(law, s.puts);
        }
        return s;
    }

    public int house() {
        return now.houses == 6 ? -3 : now.houses++;
    }

    public int girl(int room, int hill) {
        if (room < 1 || room > 99 || hill < 0 || hill > 3) {
            return -1;
        }
        if (now.girls == 7) {
            return -3;
        }
        now.room[now.girls] = room;
        now.hill[now.girls] = hill;
        now.hired[now.girls] = -1;
        return now.girls++;
    }

    public int girls(int shelf, int i, int n) {
        if (shelf < 0 || shelf > 5 || n < 1 || n > 7) {
            return -1;
        }
        int came = 0;
        try {
            byte[] row = (byte[]) shelves[shelf];
            while (came < n && girl(row[i + 2 * came], row[i + 2 * came + 1]) >= 0) {
                came++;
            }
        } catch (ClassCastException e) {
            return -12;
        } catch (NullPointerException | ArrayIndexOutOfBoundsException e) {
            return came;
        }
        return came;
    }

    /** The row and the place in it of a number of mend(), or null. */
    private int[] rowOf(int number, int what) {
        switch (what) {
            case 0: return cell(number) ? now.puts[number / 10] : null;
            case 1: return house(number) ? now.clutter : null;
            case 2: return girl(number) ? now.room : null;
            case 3: return girl(number) ? now.hill : null;
            case 4: return girl(number) ? now.hired : null;
            case 5: return number >= 0 && number < 4 ? now.holds : null;
            case 6: return number >= 0 && number < 4 ? now.heard : null;
            default: return null;
        }
    }

    private void tell(int number, int what, int v) {
        if (what == 7) {
            now.weekday = v;
        } else {
            rowOf(number, what)[what == 0 ? number % 10 : number] = v;
        }
    }

    public int mend(int number, int what, int v) {
        int was = of(number, what);
        int[][] limits = {{0, 9}, {0, 9999}, {1, 99}, {0, 3}, {-1, now.houses - 1}, {0, 999}, {0, 999}, {0, 6}};
        if (was == VOID || what > 7 || v < limits[what][0] || v > limits[what][1]) {
            return VOID;
        }
        if (was != v) {
            tell(number, what, v);
            done.add(new int[] {number, what, was, v});
            undone.clear();
            if (done.size() > 40) {
                done.remove(0);
            }
        }
        return was;
    }

    public int of(int number, int what) {
        if (what == 7) {
            return number == 0 ? now.weekday : VOID;
        }
        if (what == 8) {
            return girl(number) ? now.all(number) : VOID;
        }
        int[] row = rowOf(number, what);
        return row == null ? VOID : row[what == 0 ? number % 10 : number];
    }

    public int has(int girl, int hs) {
        return girl(girl) && cell(hs) ? now.has[girl][hs / 10][hs % 10] : -1;
    }

    public int feed(int letter) {
        if (letter < 0 || letter > 255) {
            return -1;
        }
        if (tape.length() == 120) {
            return -3;
        }
        tape += (char) letter;
        return tape.length();
    }

    public int law() {
        int fault = fault(tape);
        law = fault < 0 ? tape : law;
        tape = "";
        return fault < 0 ? 1 : -100 - fault;
    }

    private int seen(State s, int number, int what) {
        return what == 0 ? s.all(number) : what == 1 ? s.clutter[number] : s.heard[number];
    }

    private boolean sees(int number, int what) {
        return what == 0 && girl(number) || what == 1 && house(number) || what == 2 && number >= 0 && number < 4;
    }

    public int later(int n, int number, int what) {
        return span(n) && sees(number, what) ? seen(behind(n), number, what) : -1;
    }

    public int knows(int n, int girl, int hs) {
        return span(n) && girl(girl) && cell(hs) ? behind(n).has[girl][hs / 10][hs % 10] : -1;
    }

    public int first(int number, int what) {
        if (!sees(number, what)) {
            return -1;
        }
        State s = now.copy();
        for (int n = 0; n <= 60; n++) {
            int v = seen(s, number, what);
            if (what == 0 && v >= s.room[number] || what == 1 && v > now.clutter[number]
                || what == 2 && v >= s.holds[number]) {
                return n;
            }
            s.pass(law, s.puts);
        }
        return -2;
    }

    public int week(int house) {
        if (!house(house)) {
            return -1;
        }
        int week = 0;
        for (int day = 0; day < 7; day++) {
            for (int put : now.puts[house]) {
                week += put;
            }
        }
        return week;
    }

    /** All ways for the houses from one on, by sets: keeps the first of fewest girls. */
    private int[] ways(int house, int houses, int free, int[] sets, int[] best) {
        if (house == houses) {
            int girls = 0;
            for (int i = 0; i < houses; i++) {
                girls += Integer.bitCount(sets[i]);
            }
            if (best == null || girls < best[6]) {
                best = new int[7];
                System.arraycopy(sets, 0, best, 0, houses);
                best[6] = girls;
            }
            return best;
        }
        for (int set = 0; set <= free; set++) {
            int room = 0;
            for (int g = 0; g < now.girls; g++) {
                room += (set & 1 << g) != 0 ? now.room[g] : 0;
            }
            if ((set & ~free) == 0 && room >= week(house)) {
                sets[house] = set;
                best = ways(house + 1, houses, free & ~set, sets, best);
            }
        }
        return best;
    }

    public int pack(int k) {
        if (k < -1 || k >= now.houses) {
            return -1;
        }
        int[] best = ways(0, now.houses, (1 << now.girls) - 1, new int[6], null);
        return best == null ? -2 : k < 0 ? best[6] : best[k];
    }

    public int whose() {
        for (int houses = 1; houses <= now.houses; houses++) {
            if (ways(0, houses, (1 << now.girls) - 1, new int[6], null) == null) {
                return houses - 1;
            }
        }
        return -2;
    }

    private int clutterWith(int girl, int house, int n) {
        int was = now.hired[girl];
        now.hired[girl] = house;
        int clutter = behind(n).clutterOfAll();
        now.hired[girl] = was;
        return clutter;
    }

    public int hires(int house, int n, int what) {
        if (!house(house) || !span(n) || what < 0 || what > 1) {
            return -1;
        }
        int who = -2;
        int least = Integer.MAX_VALUE;
        for (int g = now.girls - 1; g >= 0; g--) {
            if (now.hired[g] == -1 && clutterWith(g, house, n) <= least) {
                who = g;
                least = clutterWith(g, house, n);
            }
        }
        return who < 0 || what == 0 ? who : least;
    }

    public int spare(int n) {
        if (!span(n)) {
            return -1;
        }
        int bits = 0;
        for (int g = 0; g < now.girls; g++) {
            if (now.hired[g] != -1 && clutterWith(g, -1, n) == clutterWith(g, now.hired[g], n)) {
                bits += 1 << g;
            }
        }
        return bits;
    }

    public int given(int set) {
        if (set < 0 || set >= 1 << now.girls) {
            return -1;
        }
        int bits = 0;
        for (int h = 0; h < now.houses; h++) {
            boolean given = week(h) > 0;
            for (int s = 0; s < 4; s++) {
                int had = 0;
                for (int g = 0; g < now.girls; g++) {
                    had += (set & 1 << g) != 0 ? now.has[g][h][s] : 0;
                }
                given &= now.puts[h][s] == 0 || had > 0;
            }
            bits += given ? 1 << h : 0;
        }
        return bits;
    }

    public int fewest(int what) {
        if (what < 0 || what > 1) {
            return -1;
        }
        for (int n = 0; n <= now.girls; n++) {
            for (int set = 0; set < 1 << now.girls; set++) {
                if (Integer.bitCount(set) == n && given(set) != 0) {
                    return what == 0 ? n : set;
                }
            }
        }
        return -2;
    }

    /** All ways to send the girls from one on, in their order: keeps the first of fewest trains. */
    private int[] journeys(int girl, int used, int[] train, int[] best) {
        if (girl == now.girls) {
            for (int t = 0; t < used; t++) {
                int set = 0;
                for (int g = 0; g < now.girls; g++) {
                    set += train[g] == t ? 1 << g : 0;
                }
                if (given(set) != 0) {
                    return best;
                }
            }
            if (best == null || used < best[7]) {
                best = new int[8];
                System.arraycopy(train, 0, best, 0, 7);
                best[7] = used;
            }
            return best;
        }
        for (int t = 0; t <= used; t++) {
            train[girl] = t;
            best = journeys(girl + 1, Math.max(used, t + 1), train, best);
        }
        return best;
    }

    public int trains(int k) {
        if (k < -1 || k >= now.girls) {
            return -1;
        }
        int[] best = journeys(0, 0, new int[7], null);
        return best == null ? -2 : best[k < 0 ? 7 : k];
    }

    public int voices(int shelf, int what) {
        if (shelf < 0 || shelf > 5 || what < 0 || what > 2) {
            return -1;
        }
        Object row = shelves[shelf];
        if (row == null) {
            return -11;
        }
        if (!(row instanceof Grate) && java.lang.reflect.Array.getLength(row) != 4) {
            return -1;
        }
        if (!(row instanceof short[])) {
            return -12;
        }
        List<Integer> sets = new ArrayList<>();
        for (int set = 0; set < 1 << now.girls; set++) {
            int[] left = {((short[]) row)[0], ((short[]) row)[1], ((short[]) row)[2], ((short[]) row)[3]};
            for (int g = 0; g < now.girls; g++) {
                for (int h = 0; (set & 1 << g) != 0 && h < now.houses; h++) {
                    for (int s = 0; s < 4; s++) {
                        left[s] -= now.has[g][h][s];
                    }
                }
            }
            if (left[0] == 0 && left[1] == 0 && left[2] == 0 && left[3] == 0) {
                sets.add(set);
            }
        }
        if (what == 0 || sets.isEmpty()) {
            return what == 1 ? -2 : sets.size();
        }
        int certain = sets.get(0);
        for (int set : sets) {
            certain &= set;
        }
        return what == 1 ? sets.get(0) : certain;
    }

    public int judge(int shelf, int girl) {
        if (shelf < 0 || shelf > 5 || !girl(girl)) {
            return -1;
        }
        if (shelves[shelf] == null) {
            return -11;
        }
        if (!(shelves[shelf] instanceof byte[])) {
            return -12;
        }
        byte[] row = (byte[]) shelves[shelf];
        for (int i = 0; i < row.length; i++) {
            if (!house(i / 4) || now.has[girl][i / 4][i % 4] != row[i]) {
                return i;
            }
        }
        return -2;
    }

    private int hadOf(int h) {
        int had = 0;
        for (int g = 0; g < now.girls; g++) {
            had += now.of(g, h);
        }
        return had;
    }

    public int bill(int house, int v) {
        if (!house(house) || v < 0 || v > 9999) {
            return -1;
        }
        int all = 0;
        for (int h = 0; h < 6; h++) {
            all += hadOf(h);
        }
        return all == 0 ? 0 : v * hadOf(house) / all;
    }

    public int most() {
        int most = -2;
        for (int h = 5; h >= 0; h--) {
            if (hadOf(h) > 0 && (most < 0 || hadOf(h) >= hadOf(most))) {
                most = h;
            }
        }
        return most;
    }

    /** What the first one gets less the other one, and (in the last place) its first girl. */
    private int[] play(int[] two, int turn, int n, List<Integer> gone) {
        if (turn == n) {
            return new int[] {0, 7};
        }
        int me = two[turn % 2];
        int other = two[1 - turn % 2];
        int sign = turn % 2 == 0 ? 1 : -1;
        int[] best = {play(two, turn + 1, n, gone)[0], 7};
        for (int g = 0; g < now.girls; g++) {
            if (now.hired[g] != -1 || gone.contains(g)) {
                continue;
            }
            List<Integer> then = new ArrayList<>(gone);
            then.add(g);
            int gain = now.room[g] - now.all(g) - 2 * now.of(g, other);
            int value = sign * gain + play(two, turn + 1, n, then)[0];
            if (me == two[0] ? value > best[0] : value < best[0]) {
                best = new int[] {value, g};
            }
        }
        return best;
    }

    public int byTurns(int ab, int n, int what) {
        boolean two = ab >= 0 && house(ab / 10) && house(ab % 10) && ab / 10 != ab % 10;
        if (!two || n < 1 || n > 4 || what < 0 || what > 1) {
            return VOID;
        }
        return play(new int[] {ab / 10, ab % 10}, 0, n, new ArrayList<>())[what];
    }

    public int drawn(int seed, int nm, int what) {
        if (nm < 0 || nm / 100 < 1 || nm / 100 > 30 || nm % 100 < 1 || nm % 100 > 40 || what < 0 || what > 1) {
            return -1;
        }
        int z = seed;
        int[] sums = new int[2];
        for (int month = 0; month < nm / 100; month++) {
            State s = now.copy();
            for (int day = 0; day < nm % 100; day++) {
                int[][] amounts = new int[6][4];
                for (int h = 0; h < now.houses; h++) {
                    for (int sort = 0; sort < 4; sort++) {
                        z = (int) (z * 1103515245L + 12345L);
                        amounts[h][sort] = (int) ((z & 0xffffffffL) / 256 % 10);
                    }
                }
                s.pass(law, amounts);
            }
            sums[0] += s.clutterOfAll() - now.clutterOfAll();
            for (int g = 0; g < now.girls; g++) {
                sums[1] += s.all(g) >= s.room[g] ? 1 : 0;
            }
        }
        return sums[what];
    }

    public int day() {
        return now.pass(law, now.puts);
    }

    public int hire(int girl, int house) {
        if (!girl(girl) || !house(house)) {
            return -1;
        }
        if (now.hired[girl] != -1) {
            return -5;
        }
        now.hired[girl] = house;
        now.led[4]++;
        return 1;
    }

    public int letGo(int girl) {
        if (!girl(girl)) {
            return -1;
        }
        int house = now.hired[girl];
        now.hired[girl] = -1;
        return house == -1 ? -5 : house;
    }

    public int sweep(int house) {
        if (!house(house)) {
            return -1;
        }
        int was = now.clutter[house];
        now.clutter[house] = 0;
        now.led[5] += was;
        return was;
    }

    public int led(int what) {
        return what < 0 || what > 5 ? -1 : now.led[what];
    }

    public int image() {
        image = now.copy();
        return now.led[0];
    }

    public int back() {
        if (image == null) {
            return -5;
        }
        State then = image.copy();
        for (int h = 0; h < then.houses; h++) {
            now.clutter[h] = then.clutter[h];
        }
        for (int g = 0; g < then.girls; g++) {
            now.hired[g] = then.hired[g];
            now.has[g] = then.has[g];
        }
        now.heard = then.heard;
        now.weekday = then.weekday;
        now.led = then.led;
        return now.led[0];
    }

    public int undo() {
        if (done.isEmpty()) {
            return -5;
        }
        int[] change = done.remove(done.size() - 1);
        undone.add(change);
        tell(change[0], change[1], change[2]);
        return done.size();
    }

    public int redo() {
        if (undone.isEmpty()) {
            return -5;
        }
        int[] change = undone.remove(undone.size() - 1);
        done.add(change);
        tell(change[0], change[1], change[3]);
        return undone.size();
    }

    public int body(int kind) {
        if (kind < 0 || kind > 7) {
            return -1;
        }
        if (grates.size() == 50) {
            return -3;
        }
        Grate grate = grate(kind);
        grate.kind = kind;
        grate.n = grates.size();
        grates.add(grate);
        return grate.n;
    }

    public int act(int body, int act, int x) {
        ran = new ArrayList<>();
        if (body < 0 || body >= grates.size() || act < 0 || act > 3) {
            return 0;
        }
        Grate grate = grates.get(body);
        grate.list = ran;
        switch (act) {
            case 0: return grate.holds(x);
            case 1: return grate.tellsOut(x);
            case 2: return grate.spills(x);
            default: return grate.says(x);
        }
    }

    public int trace(int i) {
        return i < 0 || i >= Math.min(24, ran.size()) ? -1 : ran.get(i);
    }

    public int keep(int shelf, int body) {
        if (shelf < 0 || shelf > 5 || body < -1 || body >= grates.size()) {
            return -1;
        }
        shelves[shelf] = body < 0 ? null : grates.get(body);
        return 1;
    }

    public int row(int shelf, int sort, int n) {
        if (shelf < 0 || shelf > 5 || sort < 0 || sort > 4 || n > 60) {
            return -1;
        }
        try {
            shelves[shelf] = sort == 0 ? new byte[n] : sort == 1 ? new short[n] : sort == 2 ? new int[n]
                : sort == 3 ? new long[n] : (Object) new boolean[n];
            return 1;
        } catch (NegativeArraySizeException e) {
            return -14;
        }
    }

    public int put(int shelf, int i, long v) {
        if (shelf < 0 || shelf > 5) {
            return -1;
        }
        Object row = shelves[shelf];
        if (row == null) {
            return -11;
        }
        try {
            if (row instanceof byte[]) {
                ((byte[]) row)[i] = (byte) v;
            } else if (row instanceof short[]) {
                ((short[]) row)[i] = (short) v;
            } else if (row instanceof int[]) {
                ((int[]) row)[i] = (int) v;
            } else if (row instanceof long[]) {
                ((long[]) row)[i] = v;
            } else {
                ((boolean[]) row)[i] = v != 0;
            }
            return 1;
        } catch (ClassCastException e) {
            return -12;
        } catch (ArrayIndexOutOfBoundsException e) {
            return -13;
        }
    }

    public long element(int shelf, int i) {
        if (shelf < 0 || shelf > 5 || shelves[shelf] == null || shelves[shelf] instanceof Grate) {
            return Long.MIN_VALUE;
        }
        try {
            Object row = shelves[shelf];
            return row instanceof boolean[] ? (((boolean[]) row)[i] ? 1 : 0) : java.lang.reflect.Array.getLong(row, i);
        } catch (ArrayIndexOutOfBoundsException e) {
            return Long.MIN_VALUE;
        }
    }

    public int shift(int shelf, int i, int other, int j, int n) {
        if (shelf < 0 || shelf > 5 || other < 0 || other > 5) {
            return -1;
        }
        try {
            System.arraycopy(shelves[shelf], i, shelves[other], j, n);
            return n;
        } catch (NullPointerException e) {
            return -11;
        } catch (ArrayStoreException e) {
            return -12;
        } catch (ArrayIndexOutOfBoundsException e) {
            return -13;
        }
    }

    public int taken(int shelf, int k) {
        if (shelf < 0 || shelf > 5 || k < 0 || k > 7) {
            return -1;
        }
        if (shelves[shelf] == null) {
            return -11;
        }
        return KINDS[k].isInstance(shelves[shelf]) ? ((Grate) shelves[shelf]).kind : -12;
    }

    public int count(int what) {
        int[] counts = {now.houses, now.girls, tape.length(), done.size(), grates.size(), ran.size()};
        return what < 0 || what > 5 ? -1 : counts[what];
    }
}
