import java.lang.reflect.Method;
import java.util.ArrayList;
import java.util.HashMap;
import java.util.List;
import java.util.Map;

/** Long runs of calls on the class and on the model, which must answer alike. */
public final class ModelTest {
    private static final int CALLS = 512;
    private static long z = 20261118;

    private final MaidsMemory street = new MaidsMemory();
    private final Model model = new Model();
    private final List<String> told = new ArrayList<>();
    private static final Map<String, Method[]> METHODS = new HashMap<>();

    public static void main(String[] args) throws Exception {
        int runs = args.length > 0 ? Integer.parseInt(args[0]) : 120;
        for (Method method : MaidsMemory.class.getDeclaredMethods()) {
            if (java.lang.reflect.Modifier.isPublic(method.getModifiers())) {
                Method like = Model.class.getMethod(method.getName(), method.getParameterTypes());
                METHODS.put(method.getName(), new Method[] {method, like});
            }
        }
        for (int run = 0; run < runs; run++) {
            new ModelTest().run(run);
        }
        for (int i = 0; i < 20000; i++) {
            String text = i % 3 == 0 ? noise() : expression(i % 5);
            text = text.length() > 120 ? text.substring(0, 120) : text;
            text = i % 2 == 0 ? broken(text) : text;
            int fault = Model.fault(text);
            Due.is("law by " + text, Due.law(new MaidsMemory(), text), fault < 0 ? 1 : -100 - fault);
        }
        Due.end("ModelTest");
    }

    /** A draw from 0 to n - 1. */
    private static int draw(int n) {
        z = z * 6364136223846793005L + 1442695040888963407L;
        return (int) ((z >>> 33) % n);
    }

    private static int among(int least, int greatest) {
        return least + draw(greatest - least + 1);
    }

    /** Mostly a number from 0 to n - 1, now and then one beside them. */
    private static int near(int n) {
        int kind = draw(40);
        if (kind == 0) {
            return -1;
        }
        if (kind == 1) {
            return n;
        }
        if (kind == 2) {
            return new int[] {Integer.MAX_VALUE, Integer.MIN_VALUE, -2, 1000, -10}[draw(5)];
        }
        return draw(n);
    }

    private static int spot() {
        return draw(25) == 0 ? near(60) : 10 * near(6) + near(4);
    }

    private void run(int number) throws Exception {
        int fewer = number % 4;
        for (int i = 0; i < 6 - fewer; i++) {
            call("house");
        }
        for (int i = 0; i < 7 - fewer; i++) {
            call("girl", among(1, number % 2 == 0 ? 99 : 30), draw(4));
        }
        for (int i = 0; i < 12; i++) {
            call("mend", spot(), 0, draw(10));
        }
        while (told.size() < CALLS) {
            step(draw(100));
        }
    }

    private void step(int kind) throws Exception {
        if (kind < 22) {
            change(draw(11));
        } else if (kind < 40) {
            deed(draw(13));
        } else if (kind < 70) {
            think(draw(24));
        } else if (kind < 97) {
            shelve(draw(16));
        } else {
            newLaw();
        }
    }

    private void change(int kind) throws Exception {
        switch (kind) {
            case 0: call("mend", spot(), 0, near(10)); return;
            case 1: call("mend", near(6), 1, draw(3) == 0 ? among(9980, 10000) : among(0, 300)); return;
            case 2: call("mend", near(7), 2, among(0, 100)); return;
            case 3: call("mend", near(7), 3, near(4)); return;
            case 4: call("mend", near(7), 4, among(-2, 6)); return;
            case 5: call("mend", near(4), 5, draw(3) == 0 ? among(0, 1000) : among(0, 60)); return;
            case 6: call("mend", near(4), 6, draw(3) == 0 ? among(0, 1000) : among(0, 60)); return;
            case 7: call("mend", draw(5) == 0 ? near(2) : 0, 7, near(7)); return;
            case 8: call("undo"); return;
            case 9: call("redo"); return;
            default: call("mend", near(7), near(9), near(9)); return;
        }
    }

    private void deed(int kind) throws Exception {
        switch (kind) {
            case 0: call("hire", near(7), near(6)); return;
            case 1: call("hire", near(7), near(6)); return;
            case 2: call("letGo", near(7)); return;
            case 3: call("sweep", near(6)); return;
            case 4: call("led", near(6)); return;
            case 5: call("image"); return;
            case 6: call("back"); return;
            case 7: call("house"); return;
            case 8: call("girl", near(100), near(4)); return;
            default: call("day"); return;
        }
    }

    private void think(int kind) throws Exception {
        switch (kind) {
            case 0: call("of", draw(3) == 0 ? spot() : near(7), near(9)); return;
            case 1: call("has", near(7), spot()); return;
            case 2: call("later", draw(3) == 0 ? near(61) : draw(20), near(7), near(3)); return;
            case 3: call("knows", draw(3) == 0 ? near(61) : draw(20), near(7), spot()); return;
            case 4: call("first", near(7), near(3)); return;
            case 5: call("week", near(6)); return;
            case 6: call("pack", among(-2, 7)); return;
            case 7: call("whose"); return;
            case 8: call("hires", near(6), draw(3) == 0 ? near(61) : draw(20), near(2)); return;
            case 9: call("spare", draw(3) == 0 ? near(61) : draw(20)); return;
            case 10: call("given", draw(4) == 0 ? near(128) : draw(16)); return;
            case 11: call("fewest", near(2)); return;
            case 12: call("trains", among(-2, 7)); return;
            case 13: call("bill", near(6), near(10000)); return;
            case 14: call("most"); return;
            case 15: call("byTurns", draw(4) == 0 ? spot() : 10 * draw(6) + draw(6), near(5), near(2)); return;
            case 16: call("drawn", draw(1000000), 100 * near(draw(3) == 0 ? 31 : 4) + near(41), near(2)); return;
            case 17: call("count", near(6)); return;
            case 18: hear(); return;
            case 19: certify(); return;
            case 20: certify(); return;
            case 21: call("byTurns", 10 * draw(6) + draw(6), 1 + draw(4), draw(2)); return;
            case 22: call("judge", near(6), near(7)); return;
            default: call("voices", near(6), near(3)); return;
        }
    }

    /** What some set of girls has, by sorts, in a row; then whose voices that may be. */
    private void hear() throws Exception {
        int shelf = draw(6);
        int set = draw(128);
        call("row", shelf, 1, 4);
        for (int sort = 0; sort < 4; sort++) {
            int all = 0;
            for (int girl = 0; girl < street.count(1); girl++) {
                for (int house = 0; house < street.count(0); house++) {
                    all += (set >> girl & 1) == 0 ? 0 : street.has(girl, 10 * house + sort);
                }
            }
            call("put", shelf, sort, (long) all);
        }
        for (int what = 0; what < 3; what++) {
            call("voices", shelf, what);
        }
    }

    /** What a girl has, in a row, with a fault at times; then whether it is so. */
    private void certify() throws Exception {
        int shelf = draw(6);
        int girl = draw(7);
        int length = Math.min(among(0, 26), 4 * street.count(0) + draw(2));
        call("row", shelf, 0, length);
        for (int i = 0; i < length; i++) {
            int had = street.has(girl, i / 4 * 10 + i % 4);
            if (had > 0) {
                call("put", shelf, i, (long) had + (draw(20) == 0 ? 1 : 0));
            }
        }
        call("judge", shelf, girl);
    }

    private void shelve(int kind) throws Exception {
        switch (kind) {
            case 0: call("body", near(8)); return;
            case 1:
            case 2: call("act", draw(3) == 0 ? near(50) : draw(10), near(4), draw(3) == 0 ? near(9) : draw(100000)); return;
            case 3: call("trace", near(draw(2) == 0 ? 24 : 6)); return;
            case 4: call("keep", near(6), draw(3) == 0 ? near(50) : among(-1, 5)); return;
            case 5: call("row", near(6), near(5), draw(3) == 0 ? among(-2, 62) : draw(9)); return;
            case 6: call("row", near(6), draw(2), draw(9)); return;
            case 7:
            case 8: call("put", near(6), draw(3) == 0 ? near(60) : draw(9), value()); return;
            case 9: call("element", near(6), draw(3) == 0 ? near(60) : draw(9)); return;
            case 10: call("shift", near(6), near(9), near(6), near(9), near(5)); return;
            case 11: call("shift", near(6), draw(4), near(6), draw(4), draw(4)); return;
            case 12: call("taken", near(6), near(8)); return;
            case 13: call("girls", near(6), near(6), near(8)); return;
            case 14: call("count", near(6)); return;
            default: call("feed", near(256)); return;
        }
    }

    private static long value() {
        switch (draw(4)) {
            case 0: return draw(4);
            case 1: return among(-200, 200);
            case 2: return among(-70000, 70000);
            default: return z;
        }
    }

    private void newLaw() throws Exception {
        if (street.count(2) > 0 && draw(2) == 0) {
            call("law");
        }
        String text = draw(4) == 0 ? broken(lines()) : lines();
        for (int i = 0; i < text.length() && i < 121; i++) {
            call("feed", (int) text.charAt(i));
        }
        call("law");
    }

    private static String lines() {
        StringBuilder text = new StringBuilder();
        int lines = draw(3);
        for (int i = 0; i < lines; i++) {
            text.append(expression(draw(3))).append('?').append(expression(draw(3))).append(';');
        }
        return text.append(expression(draw(4))).append(draw(6) == 0 ? "?a" : "").toString();
    }

    private static String expression(int depth) {
        int kind = depth <= 0 ? draw(3) : draw(9);
        switch (kind) {
            case 0: return String.valueOf(draw(draw(3) == 0 ? 10000 : 12));
            case 1:
            case 2: return String.valueOf("aafrshg".charAt(draw(7)));
            case 3: return "!" + expression(depth - 1);
            case 4: return "-" + expression(depth - 1);
            case 5: return "(" + expression(depth - 1) + ")";
            default: return expression(depth - 1) + "|&<=>+-*/%".charAt(draw(10)) + expression(depth - 1);
        }
    }

    /** A text with a byte changed, lost or come. */
    private static String broken(String text) {
        int at = draw(text.length());
        String byOne = String.valueOf("afrshg0123456789()!-|&<=>+*/%;? x~".charAt(draw(34)));
        switch (draw(4)) {
            case 0: return text.substring(0, at) + byOne + text.substring(at + 1);
            case 1: return text.substring(0, at) + text.substring(at + 1);
            case 2: return text.substring(0, at);
            default: return text.substring(0, at) + byOne + text.substring(at);
        }
    }

    private static String noise() {
        StringBuilder text = new StringBuilder();
        int length = among(1, 40);
        for (int i = 0; i < length; i++) {
            text.append("((((!!!!----aafrsh123456))))|&<=>+-*/%;?".charAt(draw(40)));
        }
        return text.toString();
    }

    private void call(String name, Object... arguments) throws Exception {
        Method[] both = METHODS.get(name);
        for (int i = 0; i < arguments.length; i++) {
            boolean asLong = both[0].getParameterTypes()[i] == long.class;
            arguments[i] = asLong ? (Object) ((Number) arguments[i]).longValue() : arguments[i];
        }
        long due = ((Number) both[1].invoke(model, arguments)).longValue();
        long got = ((Number) both[0].invoke(street, arguments)).longValue();
        told.add(name + java.util.Arrays.toString(arguments) + " " + due);
        Due.is(name + java.util.Arrays.toString(arguments), got, due);
        if (got != due) {
            System.out.println("  behind " + told.size() + " calls: " + told);
            System.exit(1);
        }
    }
}
