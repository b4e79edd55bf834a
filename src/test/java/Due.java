/** What all tests share: answers that are due, and a few runs of calls that many of them need. */
final class Due {
    private static int asked = 0;
    private static int wrong = 0;

    private Due() {
    }

    static void is(String call, long got, long want) {
        asked++;
        if (got != want) {
            wrong++;
            if (wrong <= 40) {
                System.out.println(call + " answered " + got + ", due is " + want);
            }
        }
    }

    static void holds(String what, boolean so) {
        asked++;
        if (!so) {
            wrong++;
            System.out.println(what);
        }
    }

    /** Ends a test: with exit code 1 if an answer was not the one that is due. */
    static void end(String test) {
        System.out.println(test + ": " + asked + " answers, " + wrong + " not as due");
        if (wrong != 0) {
            System.exit(1);
        }
    }

    /** Feeds a text and makes it the law: what law() answers. */
    static int law(MaidsMemory x, String text) {
        for (int i = 0; i < text.length(); i++) {
            x.feed(text.charAt(i));
        }
        return x.law();
    }

    /** A row on a shelf with these elements. */
    static void row(MaidsMemory x, int shelf, int sort, long... elements) {
        x.row(shelf, sort, elements.length);
        for (int i = 0; i < elements.length; i++) {
            x.put(shelf, i, elements[i]);
        }
    }

    static void days(MaidsMemory x, int n) {
        for (int i = 0; i < n; i++) {
            x.day();
        }
    }
}
