/** The Terms 1 to 3, sentence by sentence: each that names a boundary, by runs at it and on both sides of it. */
public final class TermsTest {
    private static final int VOID = -2000000000;

    public static void main(String[] args) {
        houses();
        girls();
        hills();
        weekday();
        noMoreClutter();
        weekdayBehindSix();
        asMuchAsItHolds();
        theRestSheKeeps();
        behindDays();
        firstOfGirl();
        firstOfHouse();
        firstOfHill();
        packing();
        whose();
        hiring();
        sparing();
        givenAway();
        fewest();
        trains();
        voices();
        judged();
        bill();
        most();
        byTurns();
        byTurnsHired();
        Due.end("TermsTest");
    }

    // ---- a street that is full, or has but one of each

    /** Six houses and seven girls of ROOM 10, 20 .. 70, girl g for hill g % 4. */
    private static MaidsMemory full() {
        MaidsMemory x = new MaidsMemory();
        for (int house = 0; house < 6; house++) {
            x.house();
        }
        for (int girl = 0; girl < 7; girl++) {
            x.girl(10 * girl + 10, girl % 4);
        }
        return x;
    }

    /** Each girl g but the last is hired by house g, which puts by g + 1 of sort 3 a day. */
    private static MaidsMemory fullAtWork() {
        MaidsMemory x = full();
        for (int house = 0; house < 6; house++) {
            x.mend(10 * house + 3, 0, house + 1);
            x.hire(house, house);
        }
        return x;
    }

    /** One house that puts by so much of sort 0, one girl who is hired by it. */
    private static MaidsMemory one(int puts, int room) {
        MaidsMemory x = new MaidsMemory();
        x.house();
        x.girl(room, 0);
        x.mend(0, 0, puts);
        x.hire(0, 0);
        return x;
    }

    /** A number of mend() from its least to its greatest, and beyond both. */
    private static void range(MaidsMemory x, int number, int what, int least, int greatest) {
        String told = "mend(" + number + ", " + what + ", ..)";
        int was = x.of(number, what);
        Due.is(told + " below the least", x.mend(number, what, least - 1), VOID);
        Due.is(told + " above the greatest", x.mend(number, what, greatest + 1), VOID);
        Due.is(told + " far below", x.mend(number, what, Integer.MIN_VALUE), VOID);
        Due.is(told + " far above", x.mend(number, what, Integer.MAX_VALUE), VOID);
        Due.is(told + " as it was", x.of(number, what), was);
        Due.is(told + " the greatest", x.mend(number, what, greatest), was);
        Due.is(told + " the greatest", x.of(number, what), greatest);
        Due.is(told + " the least", x.mend(number, what, least), greatest);
        Due.is(told + " the least", x.of(number, what), least);
    }

    // ---- Terms 1

    /** HOUSES 0 .. 5; PUTS 0 .. 9, 0 at first; CLUTTER 0 .. 9999, 0 at first. */
    private static void houses() {
        MaidsMemory x = full();
        Due.is("a seventh house", x.house(), -3);
        for (int house = 0; house < 6; house++) {
            Due.is("CLUTTER at first", x.of(house, 1), 0);
            range(x, house, 1, 0, 9999);
            for (int sort = 0; sort < 4; sort++) {
                Due.is("PUTS at first", x.of(10 * house + sort, 0), 0);
                range(x, 10 * house + sort, 0, 0, 9);
            }
            Due.is("a sort 4", x.of(10 * house + 4, 0), VOID);
        }
        Due.is("a house 6", x.of(6, 1), VOID);
        Due.is("a house 6", x.of(60, 0), VOID);
        Due.is("a house 6", x.mend(60, 0, 1), VOID);
    }

    /** GIRLS 0 .. 6; ROOM 1 .. 99; HILL 0 .. 3; HIRED -1 or a HOUSE, -1 at first; HAS nothing at first. */
    private static void girls() {
        MaidsMemory x = full();
        Due.is("an eighth girl", x.girl(5, 0), -3);
        for (int girl = 0; girl < 7; girl++) {
            Due.is("HIRED at first", x.of(girl, 4), -1);
            Due.is("HAS at first", x.of(girl, 8), 0);
            range(x, girl, 2, 1, 99);
            range(x, girl, 3, 0, 3);
            range(x, girl, 4, -1, 5);
            Due.is("HAS at first", x.has(girl, 0), 0);
            Due.is("HAS at first", x.has(girl, 53), 0);
            Due.is("a house 6", x.has(girl, 60), -1);
        }
        Due.is("a girl 7", x.of(7, 2), VOID);
        Due.is("a girl 7", x.of(7, 8), VOID);
        Due.is("a girl 7", x.mend(7, 4, -1), VOID);
        MaidsMemory y = one(0, 5);
        range(y, 0, 4, -1, 0);
    }

    /** HILLS 0 .. 3: HOLDS 0 .. 999, 100 at first; HEARD 0 .. 999, 0 at first. */
    private static void hills() {
        MaidsMemory x = new MaidsMemory();
        for (int hill = 0; hill < 4; hill++) {
            Due.is("HOLDS at first", x.of(hill, 5), 100);
            Due.is("HEARD at first", x.of(hill, 6), 0);
            range(x, hill, 5, 0, 999);
            range(x, hill, 6, 0, 999);
        }
        for (int what = 5; what <= 6; what++) {
            Due.is("a hill 4", x.of(4, what), VOID);
            Due.is("a hill -1", x.of(-1, what), VOID);
            Due.is("a hill 4", x.mend(4, what, 1), VOID);
            Due.is("a hill -1", x.mend(-1, what, 1), VOID);
        }
    }

    /** WEEKDAY 0 .. 6, 0 at first. */
    private static void weekday() {
        MaidsMemory x = new MaidsMemory();
        Due.is("WEEKDAY at first", x.of(0, 7), 0);
        range(x, 0, 7, 0, 6);
        Due.is("WEEKDAY of number 1", x.mend(1, 7, 3), VOID);
        Due.is("WEEKDAY of number -1", x.mend(-1, 7, 3), VOID);
    }

    /** What is left then is CLUTTER of the HOUSE (9999 at most). */
    private static void noMoreClutter() {
        MaidsMemory x = full();
        x.mend(50, 0, 4);
        x.mend(53, 0, 1);
        x.mend(5, 1, 9994);
        Due.is("to 9999 just so", x.day(), 5);
        Due.is("to 9999 just so", x.of(5, 1), 9999);
        Due.is("no more", x.day(), 0);
        Due.is("no more", x.of(5, 1), 9999);
        x.mend(5, 1, 9995);
        Due.is("one too many", x.day(), 4);
        Due.is("one too many", x.of(5, 1), 9999);
        x.mend(5, 1, 9998);
        Due.is("within a day", x.day(), 1);
        Due.is("in thought, too", x.later(60, 5, 1), 9999);
        Due.is("what came", x.led(2), 10);
        Due.is("of another house", x.of(4, 1), 0);
    }

    /** Then WEEKDAY is one more; behind 6 it is 0, and all girls go home. */
    private static void weekdayBehindSix() {
        MaidsMemory x = one(1, 99);
        for (int day = 1; day <= 15; day++) {
            x.day();
            Due.is("WEEKDAY behind " + day + " days", x.of(0, 7), day % 7);
            Due.is("HEARD behind " + day + " days", x.of(0, 6), day / 7 * 7);
            Due.is("she HAS behind " + day + " days", x.of(0, 8), day % 7);
        }
        for (int weekday = 0; weekday <= 6; weekday++) {
            MaidsMemory y = one(2, 99);
            y.mend(0, 7, weekday);
            y.day();
            Due.is("WEEKDAY behind " + weekday, y.of(0, 7), (weekday + 1) % 7);
            Due.is("HEARD behind " + weekday, y.of(0, 6), weekday == 6 ? 2 : 0);
        }
    }

    /** As much as it HOLDS more than it has HEARD: none, one less than all, all, more than all. */
    private static void asMuchAsItHolds() {
        for (int holds = 0; holds <= 12; holds++) {
            MaidsMemory x = one(5, 99);
            x.mend(0, 7, 6);
            x.mend(0, 6, 4);
            x.mend(0, 5, holds);
            int told = Math.max(0, Math.min(5, holds - 4));
            x.day();
            Due.is("HEARD of " + holds, x.of(0, 6), 4 + told);
            Due.is("she keeps of " + holds, x.of(0, 8), 5 - told);
            Due.is("she keeps of " + holds, x.has(0, 0), 5 - told);
            Due.is("told to hills of " + holds, x.led(3), told);
        }
        MaidsMemory x = one(1, 99);
        x.mend(0, 5, 999);
        x.mend(0, 6, 998);
        x.mend(0, 7, 6);
        x.day();
        Due.is("the greatest a hill can hear", x.of(0, 6), 999);
        x.mend(0, 7, 6);
        x.day();
        Due.is("no more than that", x.of(0, 6), 999);
        Due.is("the rest she keeps", x.of(0, 8), 1);
    }

    /** All GIRLS, by numbers, HOUSE by HOUSE, SORT by SORT; the rest she keeps: on a full street. */
    private static void theRestSheKeeps() {
        MaidsMemory x = full();
        for (int house = 0; house < 6; house++) {
            x.mend(10 * house, 0, 1);
            x.mend(10 * house + 3, 0, 2);
        }
        for (int house = 0; house < 6; house++) {
            x.mend(6, 4, house);
            x.mend(2, 4, 5 - house);
            x.day();
        }
        // Girls 2 and 6 go to hill 2: each was with each house for a day, girl 6 alone, where both would be one.
        Due.is("girl 2 has", x.of(2, 8), 18);
        Due.is("girl 6 has", x.of(6, 8), 18);
        x.mend(2, 4, -1);
        x.mend(6, 4, -1);
        x.mend(2, 5, 22);
        x.day();
        Due.is("the one ahead by number says all", x.of(2, 8), 0);
        Due.is("the other one keeps", x.of(6, 8), 14);
        Due.is("house by house", x.has(6, 0), 0);
        Due.is("sort by sort", x.has(6, 3), 0);
        Due.is("the next house", x.has(6, 10), 0);
        Due.is("the next sort", x.has(6, 13), 2);
        Due.is("the last sort of the last house", x.has(6, 53), 2);
    }

    // ---- Terms 2

    /** Behind n (0 .. 60) days. */
    private static void behindDays() {
        MaidsMemory x = fullAtWork();
        x.day();
        for (int house = 0; house < 6; house++) {
            Due.is("now", x.later(0, house, 0), house + 1);
            Due.is("now", x.knows(0, house, 10 * house + 3), house + 1);
            Due.is("now", x.later(0, house, 1), 0);
            Due.is("a day on", x.knows(1, house, 10 * house + 3), 2 * house + 2);
        }
        Due.is("the seventh girl", x.later(0, 6, 0), 0);
        Due.is("the seventh girl", x.knows(60, 6, 53), 0);
        x.mend(6, 4, 5);
        x.mend(5, 4, -1);
        Due.is("the seventh girl, hired", x.knows(3, 6, 53), 18);
        for (int house = 0; house < 6; house++) {
            x.mend(house, 1, 100 * house);
            Due.is("CLUTTER now", x.later(0, house, 1), 100 * house);
        }
        for (int hill = 0; hill < 4; hill++) {
            x.mend(hill, 6, 10 * hill + 1);
            Due.is("HEARD now", x.later(0, hill, 2), 10 * hill + 1);
        }
        int[] bad = {-1, 61, Integer.MIN_VALUE, Integer.MAX_VALUE};
        for (int n : bad) {
            Due.is("later(" + n + ", 0, 0)", x.later(n, 0, 0), -1);
            Due.is("knows(" + n + ", 0, 0)", x.knows(n, 0, 0), -1);
            Due.is("hires(0, " + n + ", 0)", x.hires(0, n, 0), -1);
            Due.is("spare(" + n + ")", x.spare(n), -1);
        }
    }

    /** Behind how many days (0 .. 60) a GIRL first HAS as much as ROOM; NOT. */
    private static void firstOfGirl() {
        for (int room = 1; room <= 6; room++) {
            Due.is("full behind a day each", one(1, room).first(0, 0), room);
        }
        MaidsMemory x = one(1, 60);
        x.mend(0, 5, 0);
        Due.is("behind 60", x.first(0, 0), 60);
        x.mend(0, 2, 61);
        Due.is("not behind 60", x.first(0, 0), -2);
        x.day();
        Due.is("a day on it is behind 60", x.first(0, 0), 60);
        x.mend(0, 2, 1);
        Due.is("just so now", x.first(0, 0), 0);
        x.mend(0, 2, 2);
        Due.is("one less now", x.first(0, 0), 1);
        MaidsMemory y = one(1, 7);
        // Behind 7 days she has been home: she never has 7.
        Due.is("home ahead of being full", y.first(0, 0), -2);
        y.mend(0, 5, 6);
        Due.is("the hill holds one less", y.first(0, 0), 13);
        MaidsMemory z = fullAtWork();
        // 6 a day: the hill holds but 30 of the second week's 42, so 12 are there on the 14th day.
        Due.is("a hill that holds less and less", z.first(5, 0), 22);
        z.mend(1, 5, 999);
        Due.is("a hill that holds it all", z.first(5, 0), -2);
        z.mend(5, 2, 36);
        Due.is("the last who is hired", z.first(5, 0), 6);
        Due.is("the seventh girl", z.first(6, 0), -2);
        Due.is("an eighth girl", z.first(7, 0), -1);
    }

    /** A HOUSE first has more CLUTTER than now. */
    private static void firstOfHouse() {
        MaidsMemory x = full();
        for (int house = 0; house < 6; house++) {
            Due.is("nothing to put by", x.first(house, 1), -2);
            x.mend(10 * house + 2, 0, 1);
            x.mend(house, 1, 50 * house);
            Due.is("a day", x.first(house, 1), 1);
            x.mend(house, 4, house);
            x.mend(house, 5, 0);
            Due.is("by a girl of so much room", x.first(house, 1), house < 5 ? 10 * house + 11 : -2);
        }
        x.mend(5, 2, 59);
        Due.is("behind 60", x.first(5, 1), 60);
        x.mend(5, 2, 60);
        Due.is("not behind 60", x.first(5, 1), -2);
        x.mend(0, 1, 9999);
        Due.is("there is no more", x.first(0, 1), -2);
        x.mend(0, 1, 9998);
        Due.is("there is one more", x.first(0, 1), 11);
        Due.is("a house 6", x.first(6, 1), -1);
    }

    /** A HILL has HEARD as much as it HOLDS. */
    private static void firstOfHill() {
        MaidsMemory x = one(1, 99);
        x.mend(0, 5, 7);
        Due.is("a week", x.first(0, 2), 7);
        x.mend(0, 5, 8);
        Due.is("two weeks", x.first(0, 2), 14);
        x.mend(0, 5, 56);
        Due.is("eight weeks", x.first(0, 2), 56);
        x.mend(0, 5, 57);
        Due.is("nine weeks are too far", x.first(0, 2), -2);
        x.mend(0, 7, 3);
        Due.is("from WEEKDAY 3 it is 4 days less", x.first(0, 2), 60);
        x.mend(0, 7, 2);
        Due.is("from WEEKDAY 2 it is 61", x.first(0, 2), -2);
        x.mend(0, 6, 57);
        Due.is("just so now", x.first(0, 2), 0);
        x.mend(0, 6, 58);
        Due.is("more than it holds now", x.first(0, 2), 0);
        x.mend(0, 6, 56);
        Due.is("one less now", x.first(0, 2), 5);
        for (int hill = 1; hill < 4; hill++) {
            Due.is("nobody's hill", x.first(hill, 2), -2);
            x.mend(hill, 5, 0);
            Due.is("a hill that holds nothing", x.first(hill, 2), 0);
        }
        Due.is("a hill 4", x.first(4, 2), -1);
    }

    /** Each for one at most; ROOM together is WEEK or more; of fewest; of like ones the least; it can't be. */
    private static void packing() {
        MaidsMemory x = full();
        Due.is("nothing to pack", x.pack(-1), 0);
        for (int house = 0; house < 6; house++) {
            x.mend(10 * house + 1, 0, 1);
        }
        // Seven a week for each house: any girl will do for it.
        Due.is("a girl each", x.pack(-1), 6);
        for (int house = 0; house < 6; house++) {
            Due.is("the least girl left", x.pack(house), 1 << house);
        }
        x.mend(52, 0, 9);
        Due.is("a week of 70 for ROOM 70", x.pack(5), 64);
        Due.is("still a girl each", x.pack(-1), 6);
        x.mend(53, 0, 1);
        Due.is("a week of 77 takes two", x.pack(-1), 7);
        Due.is("the least for the first house comes first", x.pack(0), 1);
        Due.is("what the others leave", x.pack(5), 96);
        x.mend(43, 0, 9);
        Due.is("a week of 70 and one of 77", x.pack(-1), 7);
        Due.is("one of 70", x.pack(4), 64);
        Due.is("two for 77", x.pack(5), 48);
        Due.is("the girl ahead of those", x.pack(3), 8);
        x.mend(33, 0, 8);
        Due.is("and one of 63", x.pack(-1), -2);
        Due.is("for no house then", x.pack(0), -2);
        Due.is("for no house then", x.pack(5), -2);
        Due.is("a house 6 all the same", x.pack(6), -1);
        Due.is("it can't be from house 5 on", x.whose(), 5);
        // Another street's worth in between is forgotten.
        x.mend(33, 0, 0);
        Due.is("it can be again", x.pack(-1), 7);
        Due.is("for all", x.whose(), -2);
        Due.is("it can still be", x.pack(-1), 7);
    }

    /** WHOSE: the first HOUSE for which, with those ahead of it, it can't be; NOT. */
    private static void whose() {
        MaidsMemory x = full();
        Due.is("no weeks on a full street", x.whose(), -2);
        for (int house = 5; house >= 0; house--) {
            for (int sort = 0; sort < 4; sort++) {
                x.mend(10 * house + sort, 0, 9);
            }
            // A week of 252: of 280 in all there is ROOM for one such house alone.
            Due.is("pack() ahead of it", x.pack(-1), house == 5 ? 6 : -2);
            Due.is("the second one of those", x.whose(), house == 5 ? -2 : house + 1);
            Due.is("asked again", x.whose(), house == 5 ? -2 : house + 1);
        }
    }

    /** A GIRL HIRED by nobody; CLUTTER of all is least; of like ones the least; NOT: there is none. */
    private static void hiring() {
        MaidsMemory x = full();
        x.mend(52, 0, 5);
        Due.is("by the last house: all like", x.hires(5, 1, 0), 0);
        Due.is("the first with room for 35 a week", x.hires(5, 6, 0), 2);
        Due.is("that", x.hires(5, 6, 1), 0);
        x.hire(2, 0);
        Due.is("one who is hired by house 0 is not asked", x.hires(5, 6, 0), 3);
        x.hire(3, 5);
        x.mend(53, 0, 9);
        Due.is("beside one who is hired", x.hires(5, 7, 0), 5);
        x.hire(6, 0);
        x.hire(5, 0);
        x.hire(4, 0);
        Due.is("two are left", x.hires(5, 6, 0), 1);
        x.hire(1, 0);
        Due.is("one is left", x.hires(5, 6, 0), 0);
        x.mend(5, 1, 7);
        Due.is("with CLUTTER of now", x.hires(5, 0, 1), 7);
        x.hire(0, 0);
        Due.is("none is left", x.hires(5, 6, 0), -2);
        Due.is("none is left", x.hires(5, 6, 1), -2);
        Due.is("BAD is named ahead of NOT", x.hires(6, 6, 0), -1);
    }

    /** Which HIRED GIRLS, let go alone, leave CLUTTER of all behind n days as it is. */
    private static void sparing() {
        MaidsMemory x = full();
        for (int house = 0; house < 3; house++) {
            x.mend(10 * house, 0, 9);
        }
        x.hire(0, 0);
        x.hire(6, 2);
        x.hire(5, 4);
        Due.is("by no days", x.spare(0), 97);
        Due.is("who works for nothing", x.spare(1), 32);
        x.hire(1, 0);
        Due.is("either of two for house 0", x.spare(1), 35);
        Due.is("in two days the second one would do alone", x.spare(2), 33);
        Due.is("in three days neither", x.spare(3), 32);
        x.mend(0, 1, 9999);
        Due.is("there is no more CLUTTER", x.spare(60), 35);
        x.letGo(5);
        Due.is("nobody hired her", x.spare(60), 3);
    }

    // ---- Terms 3

    /** GIVEN AWAY: if it PUTS by something, and they together HAVE something of it of each SORT it PUTS by. */
    private static void givenAway() {
        MaidsMemory x = fullAtWork();
        x.day();
        Due.is("by nobody", x.given(0), 0);
        for (int girl = 0; girl < 7; girl++) {
            Due.is("by girl " + girl, x.given(1 << girl), girl < 6 ? 1 << girl : 0);
        }
        Due.is("by all", x.given(127), 63);
        Due.is("by a set that is not there", x.given(128), -1);
        x.mend(53, 0, 0);
        Due.is("house 5 puts by nothing", x.given(127), 31);
        x.mend(50, 0, 1);
        Due.is("nobody has of that sort", x.given(127), 31);
        x.mend(53, 0, 9);
        Due.is("of one of two sorts", x.given(127), 31);
        x.mend(50, 0, 0);
        Due.is("one of it is something", x.given(32), 32);
    }

    /** The fewest GIRLS who give one away; of like ones the least; NOT. */
    private static void fewest() {
        MaidsMemory x = fullAtWork();
        Due.is("nobody has anything", x.fewest(0), -2);
        Due.is("nobody has anything", x.fewest(1), -2);
        x.day();
        Due.is("one", x.fewest(0), 1);
        Due.is("of six like ones the least", x.fewest(1), 1);
        for (int house = 0; house < 5; house++) {
            x.mend(10 * house + 3, 0, 0);
        }
        Due.is("the last house alone", x.fewest(0), 1);
        Due.is("the girl of the last house", x.fewest(1), 32);
        x.mend(50, 0, 1);
        Due.is("of sort 0 nobody has any", x.fewest(1), -2);
        x.mend(5, 4, -1);
        x.mend(6, 4, 5);
        x.day();
        x.mend(6, 4, -1);
        Due.is("the last girl has both", x.fewest(1), 64);
        x.mend(52, 0, 1);
        x.mend(0, 4, 5);
        x.mend(6, 2, x.of(6, 8));
        x.mend(50, 0, 0);
        x.mend(53, 0, 0);
        x.day();
        x.mend(50, 0, 1);
        x.mend(53, 0, 1);
        Due.is("two", x.fewest(0), 2);
        Due.is("the first and the last", x.fewest(1), 65);
    }

    /** The fewest trains; trains as they are first needed; NOT: one alone gives a HOUSE away. */
    private static void trains() {
        MaidsMemory x = full();
        Due.is("nobody has anything", x.trains(-1), 1);
        for (int girl = 0; girl < 7; girl++) {
            Due.is("one for all", x.trains(girl), 0);
        }
        Due.is("a girl 7", x.trains(7), -1);
        MaidsMemory y = fullAtWork();
        y.day();
        Due.is("each alone gives one away", y.trains(-1), -2);
        Due.is("the last girl, too", y.trains(6), -2);
        Due.is("a girl 7 all the same", y.trains(7), -1);
        // House 0 has sorts 0 and 1: girls 0 to 5 HAVE of sort 0, girl 6 of sort 1.
        MaidsMemory z = full();
        z.mend(0, 0, 6);
        for (int girl = 0; girl < 6; girl++) {
            z.mend(girl, 4, 0);
        }
        Due.law(z, "1");
        z.day();
        z.mend(0, 0, 0);
        z.mend(1, 0, 1);
        for (int girl = 0; girl < 6; girl++) {
            z.mend(girl, 4, -1);
        }
        z.mend(6, 4, 0);
        z.day();
        z.mend(0, 0, 6);
        Due.is("two trains", z.trains(-1), 2);
        Due.is("the first girl", z.trains(0), 0);
        Due.is("the sixth girl", z.trains(5), 0);
        Due.is("the last girl alone", z.trains(6), 1);
    }

    /** By how many sets it is just so; the least; who is in all of them; 0 without any. */
    private static void voices() {
        MaidsMemory x = full();
        x.row(0, 1, 4);
        Due.is("nothing, by each set", x.voices(0, 0), 128);
        Due.is("nobody", x.voices(0, 1), 0);
        Due.is("nobody", x.voices(0, 2), 0);
        x.mend(53, 0, 7);
        for (int girl = 0; girl < 7; girl++) {
            x.mend(girl, 4, 5);
        }
        Due.law(x, "1");
        x.day();
        Due.row(x, 0, 1, 0, 0, 0, 7);
        Due.is("all of them", x.voices(0, 0), 1);
        Due.is("all of them", x.voices(0, 1), 127);
        Due.is("all of them", x.voices(0, 2), 127);
        Due.row(x, 0, 1, 0, 0, 0, 8);
        Due.is("more than all", x.voices(0, 0), 0);
        Due.is("more than all", x.voices(0, 1), -2);
        Due.is("certain without any", x.voices(0, 2), 0);
        Due.row(x, 0, 1, 0, 0, 0, 6);
        Due.is("all but one", x.voices(0, 0), 7);
        Due.is("all but the last", x.voices(0, 1), 63);
        Due.is("nobody is certain", x.voices(0, 2), 0);
        Due.row(x, 0, 1, 0, 0, 0, -1);
        Due.is("less than nothing", x.voices(0, 0), 0);
        Due.row(x, 0, 1, 0, 0, 0, 65536 + 7);
        Due.is("a short keeps its lowest bits", x.voices(0, 0), 1);
        x.row(1, 1, 3);
        x.row(2, 1, 5);
        x.row(3, 1, 0);
        for (int shelf = 1; shelf <= 3; shelf++) {
            for (int what = 0; what <= 2; what++) {
                Due.is("a row that has not four", x.voices(shelf, what), -1);
            }
        }
    }

    /** The first that is not so (of a HOUSE that is not there, too); NOT. */
    private static void judged() {
        MaidsMemory x = fullAtWork();
        x.day();
        x.row(0, 0, 24);
        x.put(0, 23, 6);
        Due.is("all of a full street", x.judge(0, 5), -2);
        Due.is("the last one of them", x.judge(0, 6), 23);
        x.row(0, 0, 25);
        x.put(0, 23, 6);
        Due.is("a house 6", x.judge(0, 5), 24);
        x.row(0, 0, 60);
        Due.is("a house 6, of a girl who has nothing", x.judge(0, 6), 24);
        MaidsMemory y = new MaidsMemory();
        y.girl(5, 0);
        y.row(0, 0, 0);
        Due.is("nothing said, no houses", y.judge(0, 0), -2);
        y.row(0, 0, 1);
        Due.is("of a house that is not there", y.judge(0, 0), 0);
        y.house();
        Due.is("she has nothing of it", y.judge(0, 0), -2);
        y.put(0, 0, -1);
        Due.is("less than nothing", y.judge(0, 0), 0);
        y.put(0, 0, 256);
        Due.is("a byte keeps its lowest bits", y.judge(0, 0), -2);
    }

    /** v (0 .. 9999), by that of one, by all (cut); nobody has any: 0. */
    private static void bill() {
        MaidsMemory x = fullAtWork();
        for (int house = 0; house < 6; house++) {
            Due.is("nobody has any", x.bill(house, 9999), 0);
        }
        x.day();
        for (int house = 0; house < 6; house++) {
            Due.is("of 21", x.bill(house, 9999), 9999 * (house + 1) / 21);
            Due.is("all of it is cut off", x.bill(house, 1), 0);
            Due.is("of nothing", x.bill(house, 0), 0);
            Due.is("below nothing", x.bill(house, -1), -1);
            Due.is("too much", x.bill(house, 10000), -1);
        }
        Due.is("just so", x.bill(5, 7), 2);
        Due.is("one less", x.bill(5, 6), 1);
        Due.is("a house 6", x.bill(6, 1), -1);
    }

    /** Of which HOUSE most is had (of like ones the least; NOT: of none). */
    private static void most() {
        MaidsMemory x = full();
        Due.is("of none", x.most(), -2);
        x.hire(6, 5);
        x.mend(53, 0, 1);
        x.day();
        Due.is("one is enough", x.most(), 5);
        x.hire(5, 0);
        x.mend(53, 0, 0);
        x.mend(0, 0, 1);
        x.day();
        Due.is("of like ones the least", x.most(), 0);
        x.mend(0, 0, 0);
        x.mend(53, 0, 1);
        x.day();
        Due.is("one more", x.most(), 5);
        MaidsMemory y = one(9, 99);
        y.house();
        y.day();
        Due.is("the first house", y.most(), 0);
    }

    /** n (1 .. 4) times, the first one first; of like ones none first, then the least; 7: none. */
    private static void byTurns() {
        MaidsMemory x = full();
        int[] due = {70, 10, 60, 20};
        for (int n = 1; n <= 4; n++) {
            Due.is("70 less 60 and 50 less 40, " + n, x.byTurns(54, n, 0), due[n - 1]);
            Due.is("the other way, " + n, x.byTurns(45, n, 0), due[n - 1]);
            Due.is("the last girl, " + n, x.byTurns(54, n, 1), 6);
            Due.is("the last girl, " + n, x.byTurns(5, n, 1), 6);
        }
        Due.is("no times", x.byTurns(54, 0, 0), VOID);
        Due.is("five times", x.byTurns(54, 5, 0), VOID);
        Due.is("one house twice", x.byTurns(55, 1, 0), VOID);
        Due.is("a house 6", x.byTurns(56, 1, 0), VOID);
        Due.is("a house 6", x.byTurns(65, 1, 0), VOID);
        Due.is("below 0", x.byTurns(-54, 1, 0), VOID);
        for (int girl = 0; girl < 7; girl++) {
            x.mend(girl, 2, 50);
        }
        Due.is("of like ones the least", x.byTurns(54, 1, 1), 0);
        Due.is("of like ones the least", x.byTurns(54, 4, 1), 0);
        Due.is("all alike: even", x.byTurns(54, 4, 0), 0);
        Due.is("all alike: odd", x.byTurns(54, 3, 0), 50);
    }

    /** One of GIRLS HIRED by nobody, or none: those whom house 0 HIRED are not asked, either. */
    private static void byTurnsHired() {
        MaidsMemory x = full();
        for (int girl = 6; girl > 0; girl--) {
            x.hire(girl, 0);
            Due.is("less and less", x.byTurns(12, 1, 0), 10 * girl);
            Due.is("less and less", x.byTurns(12, 1, 1), girl - 1);
        }
        x.hire(0, 0);
        Due.is("nobody is left", x.byTurns(12, 4, 0), 0);
        Due.is("none", x.byTurns(12, 4, 1), 7);
        MaidsMemory y = one(9, 9);
        y.house();
        y.house();
        y.day();
        y.letGo(0);
        // She is full of house 0: to it she is worth 0, to the other one 18 less than that.
        Due.is("worth nothing: none comes first", y.byTurns(1, 1, 1), 7);
        Due.is("worth nothing", y.byTurns(1, 1, 0), 0);
        Due.is("worth less than nothing", y.byTurns(10, 1, 1), 7);
        Due.is("worth less than nothing", y.byTurns(10, 1, 0), 0);
        y.mend(0, 2, 10);
        Due.is("worth one", y.byTurns(1, 1, 1), 0);
        Due.is("worth one", y.byTurns(1, 1, 0), 1);
        Due.is("worth one to a third house, too", y.byTurns(21, 1, 0), 1);
        Due.is("less twice what she has of the other one", y.byTurns(20, 1, 1), 7);
    }
}
