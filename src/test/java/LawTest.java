/** Promises 8 and 9: the tape, texts and their faults, and what a girl takes by a law. */
public final class LawTest {
    public static void main(String[] args) {
        promise8();
        promise9Tape();
        promise9Faults();
        promise9Open();
        promise9Longest();
        promise9Signs();
        promise9Order();
        promise9Lines();
        promise9Names();
        promise9Held();
        Due.end("LawTest");
    }

    private static void promise8() {
        MaidsMemory x = new MaidsMemory();
        Due.is("8: feed(-1)", x.feed(-1), -1);
        Due.is("8: feed(256)", x.feed(256), -1);
        Due.is("8: feed(max)", x.feed(Integer.MAX_VALUE), -1);
        Due.is("8: nothing came", x.count(2), 0);
        Due.is("8: feed(0)", x.feed(0), 1);
        Due.is("8: feed(255)", x.feed(255), 2);
        for (int i = 3; i <= 120; i++) {
            Due.is("8: feed(97)", x.feed(97), i);
        }
        Due.is("8: feed(97) when full", x.feed(97), -3);
        Due.is("8: feed(256) when full: BAD is named first", x.feed(256), -1);
        Due.is("8: count(2)", x.count(2), 120);
        x.law();
        Due.is("8: the tape is empty then", x.feed(97), 1);
    }

    private static void promise9Tape() {
        MaidsMemory x = new MaidsMemory();
        x.house();
        x.girl(99, 0);
        x.mend(0, 0, 9);
        x.hire(0, 0);
        Due.is("9: no text", x.law(), -100);
        x.day();
        Due.is("9: without a text", x.has(0, 0), 9);
        Due.is("9: 4", Due.law(x, "4"), 1);
        Due.is("9: the tape is empty", x.count(2), 0);
        x.day();
        Due.is("9: by the law", x.has(0, 0), 13);
        Due.is("9: a fault", Due.law(x, "5+"), -102);
        Due.is("9: the tape is empty", x.count(2), 0);
        x.day();
        Due.is("9: by the law of before", x.has(0, 0), 17);
        Due.is("9: a fault at once", Due.law(x, "?"), -100);
        Due.is("9: nothing told", x.law(), -100);
        x.day();
        Due.is("9: by the law of before", x.has(0, 0), 21);
        Due.is("9: another law", Due.law(x, "a/2"), 1);
        x.day();
        Due.is("9: by the other law", x.has(0, 0), 25);
        Due.is("9: laws are no changes", x.count(3), 1);
    }

    private static void fault(String text, int place) {
        Due.is("9: " + text, Due.law(new MaidsMemory(), text), place < 0 ? 1 : -100 - place);
    }

    private static void promise9Faults() {
        fault("a", -1);
        fault("a;f?r;s", -1);
        fault("0000", -1);
        fault("9999", -1);
        fault("12345", 4);
        fault("00001", 4);
        fault("1234+00001", 9);
        fault("a b", 1);
        fault(" a", 0);
        fault("a ", 1);
        fault("x", 0);
        fault("A", 0);
        fault("~a", 0);
        fault("a~a", 1);
        fault("aa", 1);
        fault("a1", 1);
        fault("1a", 1);
        fault("a;", 2);
        fault(";a", 0);
        fault("a;;a", 2);
        fault("a?", 2);
        fault("?a", 0);
        fault("a?b", 2);
        fault("a?r?s", 3);
        fault("a?r;s?h;g", -1);
        fault("a<", 2);
        fault("a<r<s", 3);
        fault("a<r=s", 3);
        fault("a=r>s", 3);
        fault("a<r&s<h", -1);
        fault("a<r|s>h", -1);
        fault("(a<r)<s", -1);
        fault("a<(r<s)", -1);
        fault("(a<r<s)", 4);
        fault("(a", 2);
        fault("(a?r)", 2);
        fault("(a;r)", 2);
        fault("()", 1);
        fault("a)", 1);
        fault("(a))", 3);
        fault("(a)(", 3);
        fault("(a)a", 3);
        fault("(a)1", 3);
        fault("a+", 2);
        fault("a++a", 2);
        fault("+a", 0);
        fault("a--a", -1);
        fault("a-!a", -1);
        fault("a!a", 1);
        fault("a*-!-a", -1);
        fault("a**a", 2);
        fault("a/", 2);
        fault("a%%a", 2);
        fault("a&&a", 2);
        fault("a||a", 2);
        fault("|a", 0);
        fault("a&", 2);
        fault("!", 1);
        fault("-", 1);
        fault("(", 1);
        fault("!=a", 1);
        fault("a\u0000", 1);
        fault("\u00ff", 0);
        fault("a;f?r;s?", 8);
        fault(":", 0);
        fault("1:", 1);
        fault("1234:", 4);
        fault("a,", 1);
        fault("/a", 0);
        fault("e", 0);
        fault("b", 0);
    }

    private static void promise9Open() {
        fault("((((((a))))))", -1);
        fault("(((((((a)))))))", 6);
        fault("!!!!!!a", -1);
        fault("!!!!!!!a", 6);
        fault("------a", -1);
        fault("-------a", 6);
        fault("(-!(-!a))", -1);
        fault("(-!(-!(a)))", 6);
        fault("(-!(-!-a))", 6);
        fault("a--------a", 8);
        fault("a-------a", -1);
        fault("((((((a))))))+((((((a))))))", -1);
        fault("!!!!!!a*!!!!!!a+!!!!!!a", -1);
        fault("((((((a-a))))))", -1);
        fault("((((((a--a))))))", 8);
        fault("(((((-a-a-a)))))", -1);
        fault("(((((-a--a)))))", -1);
        fault("(((((-(a", 6);
        fault("!(!(!(a)))&!(!(!(a)))", -1);
        fault("!(!(!(!a)))", 6);
        fault("((((((", 6);
        fault("(((((((", 6);
    }

    private static void promise9Longest() {
        StringBuilder longest = new StringBuilder("1");
        while (longest.length() < 119) {
            longest.append("+a");
        }
        longest.append("+");
        fault(longest.toString(), 120);
        fault(longest.substring(0, 119), -1);
        longest.setCharAt(118, '1');
        longest.setCharAt(119, '2');
        fault(longest.toString(), -1);
        longest.setCharAt(119, '?');
        fault(longest.toString(), 120);
        longest.setCharAt(119, ')');
        fault(longest.toString(), 119);
        StringBuilder lines = new StringBuilder("0?1");
        while (lines.length() < 116) {
            lines.append(";0?1");
        }
        lines.append(";007");
        fault(lines.substring(0, 119), -1);
        takes(lines.substring(0, 119), 0);
        lines.setLength(115);
        takes(lines + ";7", 7);
        StringBuilder signs = new StringBuilder("-1");
        while (signs.length() < 118) {
            signs.append("+0");
        }
        takes(signs + "+8", 7);
        // As many values at once as a text can need.
        takes("0|1&0<1+2*(0|1&0<1+2*(0|1&0<1+2*(0|1&0<1+2*(0|1&0<1+2*(0|1&0<1+2*(0|1&0<1+2*3))))))", 1);
    }

    /** A girl who takes of 9 by the law: how much. */
    private static void takes(String text, int due) {
        MaidsMemory x = new MaidsMemory();
        x.house();
        x.girl(99, 0);
        x.mend(0, 0, 9);
        x.hire(0, 0);
        Due.is("9: " + text, Due.law(x, text), 1);
        Due.is("9: left by " + text, x.day(), 9 - due);
        Due.is("9: taken by " + text, x.has(0, 0), due);
    }

    private static void promise9Signs() {
        takes("3+4", 7);
        takes("9-4", 5);
        takes("2*3", 6);
        takes("7/2", 3);
        takes("17%9", 8);
        takes("3<4", 1);
        takes("4<4", 0);
        takes("4=4", 1);
        takes("4=5", 0);
        takes("5>4", 1);
        takes("4>4", 0);
        takes("2&4", 1);
        takes("2&0", 0);
        takes("0&2", 0);
        takes("0|2", 1);
        takes("2|0", 1);
        takes("0|0", 0);
        takes("!0", 1);
        takes("!5", 0);
        takes("!!5", 1);
        takes("5+-3", 2);
        takes("--3", 3);
        takes("-3+5", 2);
        takes("8/0", 0);
        takes("8%0", 0);
        takes("8/0=0", 1);
        takes("3+8%(4-4)", 3);
        takes("-7/2+9", 6);
        takes("-7%4+9", 6);
        takes("7%-4+2", 5);
        takes("7/-2+9", 6);
        takes("-7/2=-3", 1);
        takes("-7%4=-3", 1);
        takes("9999*9999*50>0", 1);
        takes("9999*9999*25<0", 1);
        takes("9999*9999*9999=9999*9999*9999", 1);
        // The least int: 2 to the 31st, which wraps.
        takes("2048*1024*1024<0", 1);
        takes("2048*1024*1024/-1<0", 1);
        takes("2048*1024*1024%-1", 0);
        takes("-(2048*1024*1024)<0", 1);
        takes("2048*1024*1024-1>0", 1);
        takes("-1>0|-1<0", 1);
        takes("-1&-1", 1);
        takes("0007", 7);
    }

    private static void promise9Order() {
        takes("9-4-3", 2);
        takes("9-(4-3)", 8);
        takes("2+3*2", 8);
        takes("(2+2)*2", 8);
        takes("8/2/2", 2);
        takes("8/(2/2)", 8);
        takes("7%4*2", 6);
        takes("2*7%4", 2);
        takes("-2*-3", 6);
        takes("-2+4", 2);
        takes("-(2+4)+9", 3);
        takes("!0+1", 2);
        takes("!(0+1)", 0);
        takes("!2=0", 1);
        takes("!(2=0)", 1);
        takes("!2*0+3", 3);
        takes("1+2<2+2", 1);
        takes("1+(2<2)+2", 3);
        takes("1<2&3<2", 0);
        takes("1|0&0", 1);
        takes("(1|0)&0", 0);
        takes("0&0|1", 1);
        takes("0&(0|1)", 0);
        takes("4=2*2", 1);
        takes("3>2+2", 0);
        takes("3>2&1", 1);
        takes("5&2=2", 1);
        takes("(5&2)=2", 0);
        takes("2|0+3", 1);
    }

    private static void promise9Lines() {
        takes("1?5;6", 5);
        takes("0?5;6", 6);
        takes("-1?5;6", 5);
        takes("0?5", 0);
        takes("0?5;0?6", 0);
        takes("0?5;2?6;7", 6);
        takes("5;1?6", 5);
        takes("0;5", 0);
        takes("1?0;5", 0);
        takes("a>8?2;3", 2);
        takes("a>9?2;3", 3);
        takes("0?1/0;4", 4);
        takes("1<2&2<3?4+4;0", 8);
        takes("0|0?1;0|1?2;3", 2);
        takes("3-3?1;3-2?2", 2);
    }

    private static void promise9Names() {
        MaidsMemory x = new MaidsMemory();
        x.house();
        x.house();
        x.house();
        x.girl(99, 0);
        x.girl(40, 0);
        x.girl(50, 0);
        x.hire(1, 2);
        x.hire(2, 2);
        x.mend(21, 0, 3);
        x.mend(23, 0, 9);
        x.image();
        // Sort 1: of 3, girl 1 takes 1, girl 2 takes of the 2 that are left. Sort 3: of 9, all 9 by girl 1.
        Due.law(x, "s=1?g:1");
        by(x, "s=1?g", 1, 2, 0, 0);
        by(x, "s", 1, 1, 3, 3);
        by(x, "h", 2, 1, 2, 2);
        by(x, "g", 1, 2, 1, 2);
        by(x, "r/10", 3, 0, 4, 5);
        by(x, "a/2", 1, 1, 4, 2);
        by(x, "a-1", 2, 0, 8, 0);
        by(x, "f+2", 2, 1, 4, 3);
        by(x, "f>1?4;2", 2, 1, 4, 2);
    }

    /** From the image on: what girls 1 and 2 take of sort 1, then of sort 3. */
    private static void by(MaidsMemory x, String text, int one, int two, int oneThen, int twoThen) {
        x.back();
        Due.is("9: " + text, Due.law(x, text), 1);
        x.day();
        Due.is("9: girl 1, sort 1, " + text, x.has(1, 21), one);
        Due.is("9: girl 2, sort 1, " + text, x.has(2, 21), two);
        Due.is("9: girl 1, sort 3, " + text, x.has(1, 23), oneThen);
        Due.is("9: girl 2, sort 3, " + text, x.has(2, 23), twoThen);
        Due.is("9: girl 0 takes nothing, " + text, x.of(0, 8), 0);
    }

    private static void promise9Held() {
        takes("-5", 0);
        takes("99", 9);
        takes("10", 9);
        takes("9", 9);
        takes("0-1", 0);
        MaidsMemory x = new MaidsMemory();
        x.house();
        x.girl(5, 0);
        x.mend(0, 0, 9);
        x.hire(0, 0);
        Due.law(x, "3");
        Due.is("9: day()", x.day(), 6);
        Due.is("9: no more than ROOM less f", x.day(), 7);
        Due.is("9: she has as much as ROOM", x.of(0, 8), 5);
        x.mend(0, 2, 2);
        Due.is("9: ROOM below what she has", x.day(), 9);
        Due.is("9: she has it still", x.of(0, 8), 5);
    }
}
