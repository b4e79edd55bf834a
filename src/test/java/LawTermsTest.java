/** The sentences of Terms 1 on THE LAW that name a boundary: each by all bytes, all mixtures, or all prefixes. */
public final class LawTermsTest {
    private static final String SIGNS = "|&<=>+-*/%";
    private static int z = 4711;

    public static void main(String[] args) {
        oneByte();
        byteBehindAName();
        byteBehindANumber();
        oneToFourDigits();
        sixNames();
        noBlanks();
        oneComparison();
        atMostSixOpen();
        openAtOnceOnly();
        oneLineOrMore();
        oneQuestionALine();
        at120Bytes();
        everyPrefix();
        noTextGoesOn();
        wraps();
        byNothing();
        onesAndNothings();
        whichLineCounts();
        heldWithin();
        roomLessWhatSheHas();
        withoutAText();
        Due.end("LawTermsTest");
    }

    /** Feeds a text and makes it THE LAW: its FAULT, or -1. */
    private static int fault(String text) {
        int answer = Due.law(new MaidsMemory(), text);
        return answer == 1 ? -1 : -100 - answer;
    }

    private static void fault(String text, int due) {
        Due.is("the fault of " + text, fault(text), due);
    }

    private static void takes(String text, int due) {
        takes(text, 9, 99, due);
    }

    /** A girl of such ROOM takes so much of what there is, by the law. */
    private static void takes(String text, int puts, int room, int due) {
        MaidsMemory x = new MaidsMemory();
        x.house();
        x.girl(room, 0);
        x.mend(0, 0, puts);
        x.hire(0, 0);
        Due.is("the law " + text, Due.law(x, text), 1);
        Due.is("left of " + puts + " by " + text, x.day(), puts - due);
        Due.is("taken of " + puts + " by " + text, x.of(0, 8), due);
    }

    private static boolean among(String signs, int letter) {
        return signs.indexOf((char) letter) >= 0;
    }

    // ---- what a TEXT is

    /** O = a number, a NAME, ! O, - O, ( E ): any other byte is a FAULT at once. */
    private static void oneByte() {
        for (int letter = 0; letter < 256; letter++) {
            int due = among("0123456789afrshg", letter) ? -1 : among("(!-", letter) ? 1 : 0;
            fault(String.valueOf((char) letter), due);
            fault("a+" + (char) letter, due < 0 ? -1 : 2 + due);
            fault("1;(" + (char) letter, due <= 0 ? due < 0 ? 4 : 3 : 4);
        }
    }

    private static void byteBehindAName() {
        for (int letter = 0; letter < 256; letter++) {
            fault("a" + (char) letter, among(SIGNS + "?;", letter) ? 2 : 1);
            fault("1?g" + (char) letter, among(SIGNS + ";", letter) ? 4 : 3);
            fault("(s" + (char) letter, letter == ')' ? -1 : among(SIGNS, letter) ? 3 : 2);
            fault("(s)" + (char) letter, among(SIGNS + "?;", letter) ? 4 : 3);
        }
    }

    private static void byteBehindANumber() {
        for (int letter = 0; letter < 256; letter++) {
            boolean digit = letter >= '0' && letter <= '9';
            fault("7" + (char) letter, digit ? -1 : among(SIGNS + "?;", letter) ? 2 : 1);
            fault("777" + (char) letter, digit ? -1 : among(SIGNS + "?;", letter) ? 4 : 3);
            fault("7777" + (char) letter, among(SIGNS + "?;", letter) ? 5 : 4);
        }
    }

    /** A number (1 to 4 digits). */
    private static void oneToFourDigits() {
        String digits = "";
        for (int n = 1; n <= 12; n++) {
            digits = digits + (n % 10);
            fault(digits, n <= 4 ? -1 : 4);
            fault("a-" + digits, n <= 4 ? -1 : 6);
            fault("!" + digits + "?1", n <= 4 ? -1 : 5);
            fault("0".repeat(n), n <= 4 ? -1 : 4);
        }
        takes("9999=9999&9999>9998", 1);
        takes("0009", 9);
    }

    /** NAMES: a, f, r, s, h, g. */
    private static void sixNames() {
        for (char letter = 'A'; letter <= 'z'; letter++) {
            fault(letter + "=" + letter, among("afrshg", letter) ? -1 : among("-(!", letter) ? 1 : 0);
        }
        takes("a=9&f=0&r=99&s=0&h=0&g=0", 1);
    }

    /** No blanks. */
    private static void noBlanks() {
        String text = "a+(f-12)?!r;s<h";
        fault(text, -1);
        for (int blank : new int[] {' ', '\t', '\n', '\r', 0, 160, 255}) {
            for (int at = 0; at <= text.length(); at++) {
                fault(text.substring(0, at) + (char) blank + text.substring(at), at);
            }
        }
    }

    /** B = S, or S < S, S = S, S > S: one alone. */
    private static void oneComparison() {
        for (char first : "<=>".toCharArray()) {
            fault("a" + first + "r", -1);
            fault("a" + first, 2);
            for (char second : "<=>".toCharArray()) {
                fault("a" + first + "r" + second + "s", 3);
                fault("a" + first + second + "s", 2);
                fault("(a" + first + "r)" + second + "s", -1);
                fault("a" + first + "(r" + second + "s)", -1);
                fault("a" + first + "r&s" + second + "h", -1);
                fault("a" + first + "r|s" + second + "h", -1);
                fault("a" + first + "r+s" + second + "h", 5);
                fault("a" + first + "r?s" + second + "h;h" + second + "s", -1);
            }
        }
    }

    /** At most 6 of ( ! - ahead of an O are open at once: all mixtures of six, and a seventh. */
    private static void atMostSixOpen() {
        for (int mixture = 0; mixture < 729; mixture++) {
            StringBuilder open = new StringBuilder();
            StringBuilder close = new StringBuilder();
            for (int i = 0, rest = mixture; i < 6; i++, rest /= 3) {
                open.append("(!-".charAt(rest % 3));
                close.append(rest % 3 == 0 ? ")" : "");
            }
            fault(open + "a" + close, -1);
            fault(open.toString(), 6);
            for (char seventh : "(!-".toCharArray()) {
                fault(open + "" + seventh + "a", 6);
                fault("a+" + open + seventh + "a", 8);
            }
        }
    }

    /** Open at once: what is closed, or has its O, is not. */
    private static void openAtOnceOnly() {
        fault("((((((a))))))*((((((a))))))-((((((a))))))", -1);
        fault("!!!!!!a&!!!!!!a|------a", -1);
        fault("(((((!a+!a+-a+(a)+!a)))))", -1);
        fault("(((((!(a)))))", 6);
        fault("(((((a)-(a)*(!a)))))", -1);
        fault("(((((a)-(a)*(!-(a", 14);
        fault("((((((a)-a)-a)-a)-a)-a)", -1);
        fault("((((((a)-(a)-a)-a)-a)-a)-a)", -1);
        fault("((((((a-a-a-a-a-a-a-a))))))", -1);
        fault("((((((a--a))))))", 8);
        // A minus behind an O joins: it opens nothing.
        fault("!!!!!!a-!!!!!!a", -1);
        fault("!!!!!!a--!!!!!a", -1);
        fault("!!!!!!a--!!!!!!a", 14);
    }

    /** LINES, one or more, parted by ; . */
    private static void oneLineOrMore() {
        fault("", 0);
        fault(";", 0);
        StringBuilder lines = new StringBuilder("a");
        for (int n = 1; n <= 59; n++) {
            fault(lines.toString(), -1);
            fault(lines + ";", 2 * n);
            fault(lines + ";;", 2 * n);
            lines.append(";a");
        }
    }

    /** LINE: E, or E ? E. */
    private static void oneQuestionALine() {
        fault("?", 0);
        fault("a?", 2);
        fault("a??a", 2);
        fault("a?a?", 3);
        fault("a?a?a", 3);
        fault("a?;a", 2);
        fault("a?a;a?a;a", -1);
        fault("a;a?a?a", 5);
        fault("(a?a)", 2);
        fault("(a;a)", 2);
        fault("!a?-a", -1);
    }

    /** At most 120 bytes: a text of just so many, and one that they cut off. */
    private static void at120Bytes() {
        String text = "a+".repeat(59) + "a";
        fault(text, -1);
        fault(text + "+", 120);
        fault(text + ")", 119);
        fault("00" + text.substring(1), -1);
        fault("(" + text + ")", 120);
        MaidsMemory x = new MaidsMemory();
        for (int i = 0; i < 120; i++) {
            Due.is("feed()", x.feed("00+".charAt(i % 3)), i + 1);
        }
        Due.is("feed() when full", x.feed('1'), -3);
        Due.is("it ends too early", x.law(), -220);
        Due.is("and is empty then", x.count(2), 0);
        Due.is("and is empty then", x.feed('1'), 1);
        Due.is("and is empty then", x.law(), 1);
    }

    // ---- FAULT: the place of the first byte with which no TEXT goes on; the length, if it ends too early

    private static void everyPrefix() {
        String text = "a-(f>r/2)*s+h%2-(g=1)?!(a|f&12)<-r;s=3?0;9999";
        for (int length = 0; length <= text.length(); length++) {
            int got = fault(text.substring(0, length));
            Due.holds("a prefix of " + length + " goes on", got == -1 || got == length);
            char last = length == 0 ? ';' : text.charAt(length - 1);
            boolean open = length >= 3 && length < 9 || length >= 17 && length < 21 || length >= 24 && length < 31;
            boolean wants = among(SIGNS + "?;(!", last);
            Due.is("a prefix of " + length, got, open || wants ? length : -1);
        }
    }

    /** Whether a TEXT begins so: by what can come behind it. */
    private static boolean goesOn(String begin) {
        String close = "";
        for (int i = 0; i <= 6; i++) {
            if (fault(begin + close) < 0 || fault(begin + "a" + close) < 0) {
                return true;
            }
            close = close + ")";
        }
        return false;
    }

    private static void noTextGoesOn() {
        String alphabet = "((!--))a1234|&<=>+*/%;? ";
        for (int i = 0; i < 3000; i++) {
            StringBuilder text = new StringBuilder();
            z = z * 1664525 + 1013904223;
            int length = (z >>> 10) % 14;
            for (int k = 0; k < length; k++) {
                z = z * 1664525 + 1013904223;
                text.append(alphabet.charAt((z >>> 10) % alphabet.length()));
            }
            int got = fault(text.toString());
            if (got < 0) {
                continue;
            }
            Due.holds(text + ": a text goes on with what is ahead of " + got, goesOn(text.substring(0, got)));
            if (got < length) {
                Due.holds(text + ": no text goes on with " + got, !goesOn(text.substring(0, got + 1)));
            } else {
                Due.is(text + ": ends too early", got, length);
            }
        }
    }

    // ---- what it gives

    /** Ints that wrap. */
    private static void wraps() {
        takes("2048*1024*1024=-2048*1024*1024", 1);
        takes("-(2048*1024*1024)=2048*1024*1024", 1);
        takes("2048*1024*1024-1>2048*1024*1024", 1);
        takes("2048*1024*1024/-1=2048*1024*1024", 1);
        takes("2048*1024*1024%-1=0", 1);
        takes("2048*1024*2048", 0);
        takes("2048*1024*2048+3", 3);
        takes("2048*1024*1024+2048*1024*1024+4", 4);
        takes("9999*9999*9999*9999%8", 1);
        takes("(2048*1024*1024-1)*2+4", 2);
    }

    /** / and % toward 0, by 0 they give 0. */
    private static void byNothing() {
        takes("7/0+1", 1);
        takes("7%0+1", 1);
        takes("0/0+2", 2);
        takes("0%0+2", 2);
        takes("-7/0+3", 3);
        takes("2048*1024*1024/0+4", 4);
        takes("2048*1024*1024%0+4", 4);
        takes("a/f+5", 5);
        takes("a%s+6", 6);
        takes("5/2", 2);
        takes("-5/2+9", 7);
        takes("5/-2+9", 7);
        takes("-5/-2", 2);
        takes("5%3", 2);
        takes("-5%3+9", 7);
        takes("5%-3", 2);
        takes("-5%-3+9", 7);
        takes("1/2", 0);
        takes("-1/2+1", 1);
        takes("0?1/0;0?1%0;2", 2);
    }

    /** | & < = > ! give 1, 0. */
    private static void onesAndNothings() {
        int[] values = {0, 1, 2, 9};
        for (int left : values) {
            takes("!" + left, left == 0 ? 1 : 0);
            takes("!!" + left, left == 0 ? 0 : 1);
            takes("!-" + left, left == 0 ? 1 : 0);
            for (int right : values) {
                takes(left + "|" + right, left != 0 || right != 0 ? 1 : 0);
                takes(left + "&" + right, left != 0 && right != 0 ? 1 : 0);
                takes(left + "<" + right, left < right ? 1 : 0);
                takes(left + "=" + right, left == right ? 1 : 0);
                takes(left + ">" + right, left > right ? 1 : 0);
                takes("-" + left + "<-" + right, left > right ? 1 : 0);
                takes("-" + left + "|-" + right, left != 0 || right != 0 ? 1 : 0);
            }
        }
        takes("2048*1024*1024<2048*1024*1024-1", 1);
        takes("2048*1024*1024>2048*1024*1024-1", 0);
    }

    /** The first LINE without a first E, or whose first E is not 0, counts; none: 0. */
    private static void whichLineCounts() {
        takes("3", 3);
        takes("3;4", 3);
        takes("0;4", 0);
        takes("1?3;4", 3);
        takes("-1?3;4", 3);
        takes("9999?3;4", 3);
        takes("2048*1024*1024?3;4", 3);
        takes("2048*1024*2048?3;4", 4);
        takes("0?3;4", 4);
        takes("0?3;1?4;5", 4);
        takes("0?3;0?4;5", 5);
        takes("0?3;0?4;5;6", 5);
        takes("0?3;0?4", 0);
        takes("0?3", 0);
        takes("1?0;4", 0);
        takes("0?1;!0?2", 2);
    }

    /** Held within 0 .. a. */
    private static void heldWithin() {
        for (int puts = 0; puts <= 9; puts++) {
            takes("a", puts, 99, puts);
            takes("a+1", puts, 99, puts);
            takes("9999*9999", puts, 99, puts);
            takes("0", puts, 99, 0);
            takes("-1", puts, 99, 0);
            takes("-9999*9999", puts, 99, 0);
            takes("2048*1024*1024", puts, 99, 0);
            takes("2048*1024*1024-1", puts, 99, puts);
            takes("a-1", puts, 99, Math.max(0, puts - 1));
        }
    }

    /** And no more than ROOM less f. */
    private static void roomLessWhatSheHas() {
        for (int room = 1; room <= 10; room++) {
            takes("a", 9, room, Math.min(9, room));
            takes("9", 9, room, Math.min(9, room));
            takes("5", 9, room, Math.min(5, room));
            MaidsMemory x = new MaidsMemory();
            x.house();
            x.girl(12, 0);
            x.mend(0, 0, 6);
            x.hire(0, 0);
            Due.law(x, "6");
            x.day();
            x.mend(0, 2, room);
            Due.is("less than she HAS is not taken back", x.day(), 6 - Math.max(0, room - 6));
            Due.is("she HAS", x.of(0, 8), Math.max(6, room));
        }
    }

    /** Without a text: a (as much of it as fits); a FAULT is no text. */
    private static void withoutAText() {
        MaidsMemory x = new MaidsMemory();
        x.house();
        x.girl(14, 0);
        x.girl(2, 0);
        x.mend(3, 0, 9);
        x.hire(0, 0);
        x.hire(1, 0);
        Due.is("an empty tape is no text", x.law(), -100);
        Due.is("a fault is no text", Due.law(x, "0+"), -102);
        Due.is("all of it", x.day(), 0);
        Due.is("all of it", x.has(0, 3), 9);
        Due.is("as much as fits", x.day(), 2);
        Due.is("as much as fits", x.has(0, 3), 14);
        Due.is("as much as fits", x.has(1, 3), 2);
        Due.is("nothing fits", x.day(), 9);
    }
}
