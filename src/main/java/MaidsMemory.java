/**
 * A street of houses that put by, each day, what they do not wish about, in girls with so much room.
 * ../shared/DOC.md says as numbered promises what each call does; capital words there are terms of it.
 */
public final class MaidsMemory {
    public static final int BAD = -1, NOT = -2, FULL = -3, STATE = -5, VOID = -2000000000;

    private static final int NOTHING_THERE = -11, OTHER_KIND = -12, NO_PLACE = -13, SIZE_BELOW_0 = -14;
    /** The least long: the library here has no name for it. */
    private static final long NO_ELEMENT = 1L << 63;
    private static final int HOUSES = 6, GIRLS = 7, HILLS = 4, SORTS = 4;
    private static final int CELLS = HOUSES * SORTS, SETS = 1 << GIRLS;
    private static final int LONGEST_THOUGHT = 60, LONGEST_TEXT = 120;
    private static final int MONTHS = 30, MONTH_DAYS = 40, TURNS = 4, GREATEST_BILL = 9999;

    private final Street street = new Street();
    /** The street as it would be: laid anew from the street by every call that thinks ahead. */
    private final Street thought = new Street();
    private final Street kept = new Street();
    private boolean imageKept;
    private final Tape tape = new Tape();
    private final Law rule = new Law();
    private final Changes changes = new Changes();
    private final Packing packing = new Packing();
    private final Rumour rumour = new Rumour();
    private final Voices choir = new Voices();
    private final Turns turns = new Turns();
    private final Grates grates = new Grates();
    private final Shelves shelves = new Shelves();

    public MaidsMemory() {
    }

    // ---- houses, girls, hills

    public int house() {
        return street.addHouse();
    }

    public int girl(int room, int hill) {
        return street.addGirl(room, hill);
    }

    public int girls(int shelf, int i, int n) {
        if (!shelves.isShelf(shelf) || n < 1 || n > GIRLS) {
            return BAD;
        }
        if (shelves.isBare(shelf)) {
            return 0;
        }
        if (!shelves.isRowOf(shelf, Shelves.BYTES)) {
            return OTHER_KIND;
        }
        int came = 0;
        int place = i;
        while (came < n && shelves.isPlace(shelf, place) && shelves.isPlace(shelf, place + 1)) {
            int room = (int) shelves.cell(shelf, place);
            int hill = (int) shelves.cell(shelf, place + 1);
            if (street.addGirl(room, hill) < 0) {
                return came;
            }
            came++;
            place += 2;
        }
        return came;
    }

    public int mend(int number, int what, int v) {
        int slot = street.slotOf(number, what);
        if (slot < 0 || !street.mayBe(what, v)) {
            return VOID;
        }
        int was = street.numbers[slot];
        if (was != v) {
            changes.note(slot, was, v);
            street.numbers[slot] = v;
        }
        return was;
    }

    public int of(int number, int what) {
        if (what == 8) {
            return street.isGirl(number) ? street.load[number] : VOID;
        }
        int slot = street.slotOf(number, what);
        return slot < 0 ? VOID : street.numbers[slot];
    }

    public int has(int girl, int hs) {
        int cell = street.cellOf(hs);
        return street.isGirl(girl) && cell >= 0 ? street.had(girl, cell) : BAD;
    }

    public int feed(int letter) {
        if (letter < 0 || letter > 255) {
            return BAD;
        }
        return tape.add(letter);
    }

    public int law() {
        int fault = tape.readText();
        if (fault < 0) {
            rule.become(tape);
        }
        tape.clear();
        return fault < 0 ? 1 : -100 - fault;
    }

    // ---- days in thought

    public int later(int n, int number, int what) {
        if (!isSpan(n) || !street.isSeen(number, what)) {
            return BAD;
        }
        think(n);
        return thought.seen(number, what);
    }

    public int knows(int n, int girl, int hs) {
        int cell = street.cellOf(hs);
        if (!isSpan(n) || !street.isGirl(girl) || cell < 0) {
            return BAD;
        }
        think(n);
        return thought.had(girl, cell);
    }

    public int first(int number, int what) {
        if (!street.isSeen(number, what)) {
            return BAD;
        }
        int limit = street.limitOf(number, what);
        thought.copy(street);
        for (int days = 0; days <= LONGEST_THOUGHT; days++) {
            if (thought.seen(number, what) >= limit) {
                return days;
            }
            thought.passDays(rule, 1);
        }
        return NOT;
    }

    public int week(int house) {
        return street.isHouse(house) ? street.weekOf(house) : BAD;
    }

    public int pack(int k) {
        if (k != -1 && !street.isHouse(k)) {
            return BAD;
        }
        packing.fill(street, street.houses);
        if (!packing.canBe(street)) {
            return NOT;
        }
        return k == -1 ? packing.fewestGirls(street) : packing.girlsFor(street, k);
    }

    public int whose() {
        for (int house = 0; house < street.houses; house++) {
            packing.fill(street, house + 1);
            if (!packing.canBe(street)) {
                return house;
            }
        }
        return NOT;
    }

    public int hires(int house, int n, int what) {
        if (!street.isHouse(house) || !isSpan(n) || what < 0 || what > 1) {
            return BAD;
        }
        int who = NOT;
        int least = NOT;
        for (int girl = 0; girl < street.girls; girl++) {
            if (street.hirer(girl) < 0) {
                int clutter = clutterIf(girl, house, n);
                if (who == NOT || clutter < least) {
                    who = girl;
                    least = clutter;
                }
            }
        }
        return what == 0 ? who : least;
    }

    public int spare(int n) {
        if (!isSpan(n)) {
            return BAD;
        }
        think(n);
        int asItIs = thought.clutterOfAll();
        int bits = 0;
        for (int girl = 0; girl < street.girls; girl++) {
            if (street.hirer(girl) >= 0 && clutterIf(girl, -1, n) == asItIs) {
                bits |= 1 << girl;
            }
        }
        return bits;
    }

    // ---- who knows what

    public int given(int set) {
        if (!street.isSet(set)) {
            return BAD;
        }
        rumour.hear(street);
        return rumour.givenBy(set);
    }

    public int fewest(int what) {
        if (what < 0 || what > 1) {
            return BAD;
        }
        rumour.hear(street);
        int who = rumour.fewestWhoGive();
        return who < 0 || what == 1 ? who : Integer.bitCount(who);
    }

    public int trains(int k) {
        if (k != -1 && !street.isGirl(k)) {
            return BAD;
        }
        rumour.hear(street);
        int fewest = rumour.board();
        return fewest < 0 || k == -1 ? fewest : rumour.trainOf(k);
    }

    public int voices(int shelf, int what) {
        if (!shelves.isShelf(shelf) || what < 0 || what > 2) {
            return BAD;
        }
        if (shelves.isBare(shelf)) {
            return NOTHING_THERE;
        }
        // BAD is named ahead of -12, so a row of another sort that has not four is BAD, too.
        if (shelves.isRow(shelf) && shelves.length(shelf) != SORTS) {
            return BAD;
        }
        if (!shelves.isRowOf(shelf, Shelves.SHORTS)) {
            return OTHER_KIND;
        }
        choir.listen(street, shelves, shelf);
        return what == 0 ? choir.sets : what == 1 ? choir.least : choir.certain;
    }

    public int judge(int shelf, int girl) {
        if (!shelves.isShelf(shelf) || !street.isGirl(girl)) {
            return BAD;
        }
        if (shelves.isBare(shelf)) {
            return NOTHING_THERE;
        }
        if (!shelves.isRowOf(shelf, Shelves.BYTES)) {
            return OTHER_KIND;
        }
        for (int place = 0; place < shelves.length(shelf); place++) {
            boolean housed = place < street.houses * SORTS;
            if (!housed || shelves.cell(shelf, place) != street.had(girl, place)) {
                return place;
            }
        }
        return NOT;
    }

    public int bill(int house, int v) {
        if (!street.isHouse(house) || v < 0 || v > GREATEST_BILL) {
            return BAD;
        }
        int all = 0;
        for (int other = 0; other < street.houses; other++) {
            all += street.hadOf(other);
        }
        return all == 0 ? 0 : v * street.hadOf(house) / all;
    }

    public int most() {
        int house = NOT;
        int greatest = 0;
        for (int other = 0; other < street.houses; other++) {
            if (street.hadOf(other) > greatest) {
                house = other;
                greatest = street.hadOf(other);
            }
        }
        return house;
    }

    public int byTurns(int ab, int n, int what) {
        if (ab < 0 || n < 1 || n > TURNS || what < 0 || what > 1) {
            return VOID;
        }
        int one = ab / 10;
        int other = ab % 10;
        if (!street.isHouse(one) || !street.isHouse(other) || one == other) {
            return VOID;
        }
        turns.weigh(street, one, other);
        return what == 0 ? turns.worth(n) : turns.opening(n);
    }

    public int drawn(int seed, int nm, int what) {
        if (nm < 0 || what < 0 || what > 1) {
            return BAD;
        }
        int months = nm / 100;
        int days = nm % 100;
        if (months < 1 || months > MONTHS || days < 1 || days > MONTH_DAYS) {
            return BAD;
        }
        int z = seed;
        int clutter = 0;
        int full = 0;
        for (int month = 0; month < months; month++) {
            thought.copy(street);
            for (int i = 0; i < days; i++) {
                z = thought.passDrawnDay(rule, z);
            }
            clutter += thought.clutterOfAll() - street.clutterOfAll();
            full += thought.fullGirls();
        }
        return what == 0 ? clutter : full;
    }

    // ---- in deed

    public int day() {
        return street.passDays(rule, 1);
    }

    public int hire(int girl, int house) {
        if (!street.isGirl(girl) || !street.isHouse(house)) {
            return BAD;
        }
        if (street.hirer(girl) >= 0) {
            return STATE;
        }
        street.setHirer(girl, house);
        street.tally[Street.HIRINGS]++;
        return 1;
    }

    public int letGo(int girl) {
        if (!street.isGirl(girl)) {
            return BAD;
        }
        int house = street.hirer(girl);
        if (house < 0) {
            return STATE;
        }
        street.setHirer(girl, -1);
        return house;
    }

    public int sweep(int house) {
        return street.isHouse(house) ? street.sweepOff(house) : BAD;
    }

    public int led(int what) {
        return what < 0 || what >= Street.LEDGER ? BAD : street.tally[what];
    }

    public int image() {
        kept.copy(street);
        imageKept = true;
        return street.tally[Street.DAYS];
    }

    public int back() {
        if (!imageKept) {
            return STATE;
        }
        street.layBack(kept);
        return street.tally[Street.DAYS];
    }

    public int undo() {
        return changes.takeBack(street);
    }

    public int redo() {
        return changes.doAgain(street);
    }

    // ---- acts, shelves

    public int body(int kind) {
        return grates.add(kind);
    }

    public int act(int body, int act, int x) {
        return grates.run(body, act, x);
    }

    public int trace(int i) {
        return grates.ranAt(i);
    }

    public int keep(int shelf, int body) {
        if (!shelves.isShelf(shelf) || body != -1 && !grates.isGrate(body)) {
            return BAD;
        }
        shelves.lay(shelf, body);
        return 1;
    }

    public int row(int shelf, int sort, int n) {
        if (!shelves.isShelf(shelf) || !shelves.isSort(sort) || n > Shelves.LONGEST_ROW) {
            return BAD;
        }
        if (n < 0) {
            return SIZE_BELOW_0;
        }
        shelves.layRow(shelf, sort, n);
        return 1;
    }

    public int put(int shelf, int i, long v) {
        int refusal = refusalAt(shelf, i);
        if (refusal < 0) {
            return refusal;
        }
        shelves.setCell(shelf, i, v);
        return 1;
    }

    public long element(int shelf, int i) {
        return refusalAt(shelf, i) < 0 ? NO_ELEMENT : shelves.cell(shelf, i);
    }

    public int shift(int shelf, int i, int other, int j, int n) {
        if (!shelves.isShelf(shelf) || !shelves.isShelf(other)) {
            return BAD;
        }
        if (shelves.isBare(shelf) || shelves.isBare(other)) {
            return NOTHING_THERE;
        }
        if (!shelves.isRow(shelf) || !shelves.areAlike(shelf, other)) {
            return OTHER_KIND;
        }
        if (!shelves.areSpan(shelf, i, n) || !shelves.areSpan(other, j, n)) {
            return NO_PLACE;
        }
        shelves.move(shelf, i, other, j, n);
        return n;
    }

    public int taken(int shelf, int k) {
        if (!shelves.isShelf(shelf) || !grates.isKind(k)) {
            return BAD;
        }
        if (shelves.isBare(shelf)) {
            return NOTHING_THERE;
        }
        int kind = grates.kindOf(shelves.grateOn(shelf));
        return grates.isUnder(kind, k) ? kind : OTHER_KIND;
    }

    public int count(int what) {
        switch (what) {
            case 0: return street.houses;
            case 1: return street.girls;
            case 2: return tape.length;
            case 3: return changes.done;
            case 4: return grates.bodies;
            case 5: return grates.ran;
            default: return BAD;
        }
    }

    // ---- what several calls need

    private static boolean isSpan(int n) {
        return n >= 0 && n <= LONGEST_THOUGHT;
    }

    private void think(int days) {
        thought.copy(street);
        thought.passDays(rule, days);
    }

    /** CLUTTER of all behind so many days, if a girl were hired by a house (-1: by nobody) from now on. */
    private int clutterIf(int girl, int house, int days) {
        thought.copy(street);
        thought.setHirer(girl, house);
        thought.passDays(rule, days);
        return thought.clutterOfAll();
    }

    /** What an element is refused with, or 0. */
    private int refusalAt(int shelf, int i) {
        if (!shelves.isShelf(shelf)) {
            return BAD;
        }
        if (shelves.isBare(shelf)) {
            return NOTHING_THERE;
        }
        if (!shelves.isRow(shelf)) {
            return OTHER_KIND;
        }
        return shelves.isPlace(shelf, i) ? 0 : NO_PLACE;
    }

    /** Houses, girls, hills, weekday and what is led of them. */
    private static final class Street {
        // All numbers of mend() stand in one row, so that a change is a place there; where those of each WHAT begin:
        static final int PUTS = 0, CLUTTER = 24, ROOM = 30, HILL = 37, HIRED = 44, HOLDS = 51, HEARD = 55, WEEKDAY = 59;
        static final int NUMBERS = 60;
        static final int[] START = {PUTS, CLUTTER, ROOM, HILL, HIRED, HOLDS, HEARD, WEEKDAY};
        static final int[] LEAST = {0, 0, 1, 0, -1, 0, 0, 0};
        static final int[] GREATEST = {9, 9999, 99, 3, 5, 999, 999, 6};
        static final int MOST_CLUTTER = 9999, FIRST_HOLDS = 100, LAST_WEEKDAY = 6;
        static final int DAYS = 0, PUT_BY = 1, CLUTTERED = 2, TOLD = 3, HIRINGS = 4, SWEPT = 5, LEDGER = 6;

        int houses;
        int girls;
        final int[] numbers = new int[NUMBERS];
        /** What girls have: girl by girl, house by house, sort by sort. */
        private final int[] memory = new int[GIRLS * CELLS];
        /** What each girl has of all. */
        final int[] load = new int[GIRLS];
        final int[] tally = new int[LEDGER];
        /** What houses put by on the day that passes: their own numbers, or drawn ones. */
        private final int[] today = new int[CELLS];

        Street() {
            for (int hill = 0; hill < HILLS; hill++) {
                numbers[HOLDS + hill] = FIRST_HOLDS;
            }
        }

        void copy(Street from) {
            houses = from.houses;
            girls = from.girls;
            System.arraycopy(from.numbers, 0, numbers, 0, NUMBERS);
            System.arraycopy(from.memory, 0, memory, 0, GIRLS * CELLS);
            System.arraycopy(from.load, 0, load, 0, GIRLS);
            System.arraycopy(from.tally, 0, tally, 0, LEDGER);
        }

        /** Houses and girls that the image does not know stay as they are, and so does what only mend() tells. */
        void layBack(Street image) {
            System.arraycopy(image.numbers, CLUTTER, numbers, CLUTTER, image.houses);
            System.arraycopy(image.numbers, HIRED, numbers, HIRED, image.girls);
            System.arraycopy(image.numbers, HEARD, numbers, HEARD, HILLS);
            numbers[WEEKDAY] = image.numbers[WEEKDAY];
            System.arraycopy(image.memory, 0, memory, 0, image.girls * CELLS);
            System.arraycopy(image.load, 0, load, 0, image.girls);
            System.arraycopy(image.tally, 0, tally, 0, LEDGER);
        }

        int addHouse() {
            if (houses >= HOUSES) {
                return FULL;
            }
            houses++;
            return houses - 1;
        }

        int addGirl(int room, int hill) {
            if (room < 1 || room > 99 || hill < 0 || hill >= HILLS) {
                return BAD;
            }
            if (girls >= GIRLS) {
                return FULL;
            }
            numbers[ROOM + girls] = room;
            numbers[HILL + girls] = hill;
            numbers[HIRED + girls] = -1;
            girls++;
            return girls - 1;
        }

        boolean isHouse(int number) {
            return number >= 0 && number < houses;
        }

        boolean isGirl(int number) {
            return number >= 0 && number < girls;
        }

        boolean isSet(int set) {
            return set >= 0 && set < 1 << girls;
        }

        /** The place of a house and sort among all, or -1. */
        int cellOf(int hs) {
            if (hs < 0 || hs / 10 >= houses || hs % 10 >= SORTS) {
                return -1;
            }
            return hs / 10 * SORTS + hs % 10;
        }

        /** Where a number of mend() stands, or -1. */
        int slotOf(int number, int what) {
            if (what < 0 || what >= START.length) {
                return -1;
            }
            int place = what == 0 ? cellOf(number) : number;
            return place < 0 || place >= howMany(what) ? -1 : START[what] + place;
        }

        private int howMany(int what) {
            switch (what) {
                case 0: return houses * SORTS;
                case 1: return houses;
                case 2:
                case 3:
                case 4: return girls;
                case 5:
                case 6: return HILLS;
                default: return 1;
            }
        }

        boolean mayBe(int what, int v) {
            if (what < 0 || what >= GREATEST.length) {
                return false;
            }
            int greatest = START[what] == HIRED ? houses - 1 : GREATEST[what];
            return v >= LEAST[what] && v <= greatest;
        }

        int hirer(int girl) {
            return numbers[HIRED + girl];
        }

        void setHirer(int girl, int house) {
            numbers[HIRED + girl] = house;
        }

        int had(int girl, int cell) {
            return memory[girl * CELLS + cell];
        }

        /** What a girl has of a house, all sorts. */
        int hadOf(int girl, int house) {
            int all = 0;
            for (int sort = 0; sort < SORTS; sort++) {
                all += had(girl, house * SORTS + sort);
            }
            return all;
        }

        /** What all girls have of a house. */
        int hadOf(int house) {
            int all = 0;
            for (int girl = 0; girl < girls; girl++) {
                all += hadOf(girl, house);
            }
            return all;
        }

        int weekOf(int house) {
            int oneDay = 0;
            for (int sort = 0; sort < SORTS; sort++) {
                oneDay += numbers[PUTS + house * SORTS + sort];
            }
            return oneDay * 7;
        }

        int clutterOfAll() {
            int all = 0;
            for (int house = 0; house < houses; house++) {
                all += numbers[CLUTTER + house];
            }
            return all;
        }

        int fullGirls() {
            int full = 0;
            for (int girl = 0; girl < girls; girl++) {
                full += load[girl] >= numbers[ROOM + girl] ? 1 : 0;
            }
            return full;
        }

        // What is looked at ahead: 0 what a girl has of all, 1 clutter of a house, 2 what a hill has heard.

        boolean isSeen(int number, int what) {
            switch (what) {
                case 0: return isGirl(number);
                case 1: return isHouse(number);
                case 2: return number >= 0 && number < HILLS;
                default: return false;
            }
        }

        int seen(int number, int what) {
            switch (what) {
                case 0: return load[number];
                case 1: return numbers[CLUTTER + number];
                default: return numbers[HEARD + number];
            }
        }

        /** From how much on what is seen is at its FIRST. */
        int limitOf(int number, int what) {
            switch (what) {
                case 0: return numbers[ROOM + number];
                case 1: return numbers[CLUTTER + number] + 1;
                default: return numbers[HOLDS + number];
            }
        }

        // Days

        /** So many days pass; gives what came to be clutter. */
        int passDays(Law rule, int days) {
            int came = 0;
            for (int i = 0; i < days; i++) {
                System.arraycopy(numbers, PUTS, today, 0, CELLS);
                came += live(rule);
            }
            return came;
        }

        /** A day by drawn numbers; gives how far the draws have come. */
        int passDrawnDay(Law rule, int seed) {
            int z = seed;
            for (int cell = 0; cell < houses * SORTS; cell++) {
                z = z * 1103515245 + 12345;
                today[cell] = (z >>> 8) % 10;
            }
            live(rule);
            return z;
        }

        private int live(Law rule) {
            int came = 0;
            for (int cell = 0; cell < houses * SORTS; cell++) {
                int left = putAway(rule, cell);
                came += letLie(cell / SORTS, left);
            }
            tally[DAYS]++;
            tally[CLUTTERED] += came;
            if (numbers[WEEKDAY] < LAST_WEEKDAY) {
                numbers[WEEKDAY]++;
            } else {
                numbers[WEEKDAY] = 0;
                goHome();
            }
            return came;
        }

        /** Girls take of what a house puts by of a sort; gives what is left. */
        private int putAway(Law rule, int cell) {
            int house = cell / SORTS;
            int left = today[cell];
            for (int girl = 0; girl < girls; girl++) {
                int room = numbers[ROOM + girl];
                int fits = Math.min(left, room - load[girl]);
                // Where nothing fits nothing is taken, whatever the law says: it need not be asked.
                if (numbers[HIRED + girl] == house && fits > 0) {
                    int wanted = rule.answer(left, load[girl], room, cell % SORTS, house, girl);
                    int taken = Math.max(0, Math.min(wanted, fits));
                    left -= taken;
                    putBy(girl, cell, taken);
                }
            }
            return left;
        }

        private void putBy(int girl, int cell, int taken) {
            memory[girl * CELLS + cell] += taken;
            load[girl] += taken;
            tally[PUT_BY] += taken;
        }

        /** What is left becomes clutter; gives how much of it did. */
        private int letLie(int house, int left) {
            int was = numbers[CLUTTER + house];
            int now = Math.min(MOST_CLUTTER, was + left);
            numbers[CLUTTER + house] = now;
            return now - was;
        }

        private void goHome() {
            for (int girl = 0; girl < girls; girl++) {
                for (int cell = 0; cell < houses * SORTS; cell++) {
                    tell(girl, cell);
                }
            }
        }

        private void tell(int girl, int cell) {
            int hill = numbers[HILL + girl];
            int space = Math.max(0, numbers[HOLDS + hill] - numbers[HEARD + hill]);
            int told = Math.min(space, memory[girl * CELLS + cell]);
            numbers[HEARD + hill] += told;
            memory[girl * CELLS + cell] -= told;
            load[girl] -= told;
            tally[TOLD] += told;
        }

        int sweepOff(int house) {
            int was = numbers[CLUTTER + house];
            numbers[CLUTTER + house] = 0;
            tally[SWEPT] += was;
            return was;
        }
    }

    /** The tape, and the reader of a text on it, which writes it down with each sign behind what it joins. */
    private static final class Tape {
        static final int MOST_OPEN = 6, MOST_DIGITS = 4;
        private static final int EITHER = 0, BOTH = 1, COMPARED = 2, SUM = 3, PRODUCT = 4, ONE = 5;
        /** The sign of a minus that joins nothing. */
        static final int NEGATIVE = '~';

        private final int[] letters = new int[LONGEST_TEXT];
        int length;
        private final int[] written = new int[LONGEST_TEXT + 1];
        private int end;
        private int at;
        private int open;

        int add(int letter) {
            if (length >= LONGEST_TEXT) {
                return FULL;
            }
            letters[length] = letter;
            length++;
            return length;
        }

        void clear() {
            length = 0;
        }

        /** Copies what was read; gives its length. */
        int copyTo(int[] code) {
            int n = Math.min(end, code.length);
            System.arraycopy(written, 0, code, 0, n);
            return n;
        }

        /** Reads the whole tape: -1, or its fault. No reader goes on from a wrong byte: it is where reading stops. */
        int readText() {
            at = 0;
            end = 0;
            open = 0;
            boolean goesOn = true;
            for (int line = 0; goesOn && line <= LONGEST_TEXT; line++) {
                if (!readLine()) {
                    return at;
                }
                goesOn = accepts(';');
            }
            return at < length ? at : -1;
        }

        private boolean readLine() {
            if (!readLevel(EITHER)) {
                return false;
            }
            if (accepts('?')) {
                write(-'?');
                if (!readLevel(EITHER)) {
                    return false;
                }
            }
            write(-';');
            return true;
        }

        /** Reads E, A, B, S, P of the document as levels 0 to 4, and O as the one behind them. */
        private boolean readLevel(int level) {
            if (level >= ONE) {
                return readOne();
            }
            boolean read = readLevel(level + 1);
            int mostSigns = level == COMPARED ? 1 : LONGEST_TEXT;
            int sign = next();
            for (int i = 0; read && i < mostSigns && levelOf(sign) == level; i++) {
                at++;
                read = readLevel(level + 1);
                write(-sign);
                sign = next();
            }
            return read;
        }

        private static int levelOf(int sign) {
            switch (sign) {
                case '|': return EITHER;
                case '&': return BOTH;
                case '<':
                case '=':
                case '>': return COMPARED;
                case '+':
                case '-': return SUM;
                case '*':
                case '/':
                case '%': return PRODUCT;
                default: return -1;
            }
        }

        private boolean readOne() {
            int sign = next();
            if (sign >= '0' && sign <= '9') {
                return readNumber();
            }
            int name = Law.nameOf(sign);
            if (name > 0) {
                at++;
                write(-name);
                return true;
            }
            boolean opens = sign == '(' || sign == '!' || sign == '-';
            return opens && open < MOST_OPEN && readOpened(sign);
        }

        private boolean readOpened(int sign) {
            at++;
            open++;
            boolean read = sign == '(' ? readLevel(EITHER) && accepts(')') : readOne();
            open--;
            if (sign != '(') {
                write(sign == '-' ? -NEGATIVE : -sign);
            }
            return read;
        }

        private boolean readNumber() {
            int number = 0;
            int digit = next() - '0';
            for (int i = 0; i < MOST_DIGITS && digit >= 0 && digit <= 9; i++) {
                number = number * 10 + digit;
                at++;
                digit = next() - '0';
            }
            write(number);
            return true;
        }

        private boolean accepts(char sign) {
            if (next() != sign) {
                return false;
            }
            at++;
            return true;
        }

        /** The byte that comes, or -1 at the end. */
        private int next() {
            return at >= 0 && at < length ? letters[at] : -1;
        }

        private void write(int code) {
            if (end < written.length) {
                written[end] = code;
                end++;
            }
        }
    }

    /** The law: numbers as they are, names as -1 to -6, signs as their bytes below 0, each behind what it joins. */
    private static final class Law {
        static final int NAMES = 6;

        private final int[] code = new int[LONGEST_TEXT + 1];
        private int length;
        private final int[] named = new int[NAMES];
        private final int[] stack = new int[LONGEST_TEXT];
        private int top;

        static int nameOf(int letter) {
            switch (letter) {
                case 'a': return 1;
                case 'f': return 2;
                case 'r': return 3;
                case 's': return 4;
                case 'h': return 5;
                case 'g': return 6;
                default: return 0;
            }
        }

        void become(Tape tape) {
            length = tape.copyTo(code);
        }

        /** How much a girl should take; without a text all there is. */
        int answer(int a, int f, int r, int s, int h, int g) {
            if (length == 0) {
                return a;
            }
            named[0] = a;
            named[1] = f;
            named[2] = r;
            named[3] = s;
            named[4] = h;
            named[5] = g;
            top = 0;
            boolean passesOver = false;
            for (int i = 0; i < length; i++) {
                int sign = -code[i];
                if (passesOver) {
                    passesOver = sign != ';';
                } else if (sign <= 0) {
                    push(code[i]);
                } else if (sign <= NAMES) {
                    push(named[sign - 1]);
                } else if (sign == ';') {
                    return pop();
                } else if (sign == '?') {
                    passesOver = pop() == 0;
                } else {
                    int right = pop();
                    boolean standsAlone = sign == '!' || sign == Tape.NEGATIVE;
                    push(join(standsAlone ? 0 : pop(), sign, right));
                }
            }
            return 0;
        }

        private static int join(int left, int sign, int right) {
            switch (sign) {
                case '!': return right == 0 ? 1 : 0;
                case Tape.NEGATIVE: return -right;
                case '+': return left + right;
                case '-': return left - right;
                case '*': return left * right;
                case '/': return right == 0 ? 0 : left / right;
                case '%': return right == 0 ? 0 : left % right;
                case '<': return left < right ? 1 : 0;
                case '=': return left == right ? 1 : 0;
                case '>': return left > right ? 1 : 0;
                case '&': return left != 0 && right != 0 ? 1 : 0;
                default: return left != 0 || right != 0 ? 1 : 0;
            }
        }

        private void push(int value) {
            if (top < stack.length) {
                stack[top] = value;
                top++;
            }
        }

        private int pop() {
            if (top <= 0) {
                return 0;
            }
            top--;
            return stack[top];
        }
    }

    /** Changes by mend(), for undoing: those done first, then those undone that may be done again. */
    private static final class Changes {
        static final int MOST = 40;

        private final int[] slots = new int[MOST];
        private final int[] before = new int[MOST];
        private final int[] after = new int[MOST];
        int done;
        private int known;

        void note(int slot, int was, int becomes) {
            if (done >= MOST) {
                forgetOldest();
            }
            slots[done] = slot;
            before[done] = was;
            after[done] = becomes;
            done++;
            known = done;
        }

        private void forgetOldest() {
            System.arraycopy(slots, 1, slots, 0, MOST - 1);
            System.arraycopy(before, 1, before, 0, MOST - 1);
            System.arraycopy(after, 1, after, 0, MOST - 1);
            done = MOST - 1;
        }

        int takeBack(Street street) {
            if (done <= 0) {
                return STATE;
            }
            done--;
            street.numbers[slots[done]] = before[done];
            return done;
        }

        int doAgain(Street street) {
            if (done >= known) {
                return STATE;
            }
            street.numbers[slots[done]] = after[done];
            done++;
            return known - done;
        }
    }

    /** Girls for houses, each for one at most, so that each week finds room. */
    private static final class Packing {
        static final int CANNOT = 99;

        private final int[] rooms = new int[SETS];
        /** By a house and a set of girls still free: the fewest for this house and those behind it. */
        private final int[] fewestFrom = new int[(HOUSES + 1) * SETS];

        /** Works out the first so many houses of the street. */
        void fill(Street street, int houses) {
            for (int set = 0; set < SETS; set++) {
                rooms[set] = roomOf(street, set);
                fewestFrom[houses * SETS + set] = 0;
            }
            for (int house = houses - 1; house >= 0; house--) {
                for (int free = 0; free < 1 << street.girls; free++) {
                    fewestFrom[house * SETS + free] = fewestFor(street.weekOf(house), house, free);
                }
            }
        }

        private static int roomOf(Street street, int set) {
            int room = 0;
            for (int girl = 0; girl < street.girls; girl++) {
                if ((set >> girl & 1) != 0) {
                    room += street.numbers[Street.ROOM + girl];
                }
            }
            return room;
        }

        private int fewestFor(int week, int house, int free) {
            int fewest = CANNOT;
            int set = 0;
            for (int i = 0; i < 1 << Integer.bitCount(free); i++) {
                if (rooms[set] >= week) {
                    fewest = Math.min(fewest, girlsWith(house, free, set));
                }
                set = nextWithin(free, set);
            }
            return fewest;
        }

        /** How many girls it takes from a house on, if it gets this set of the free ones. */
        private int girlsWith(int house, int free, int set) {
            int behind = fewestFrom[(house + 1) * SETS + (free & ~set)];
            return Math.min(CANNOT, Integer.bitCount(set) + behind);
        }

        /** The next greater set of free girls. */
        private static int nextWithin(int free, int set) {
            return set - free & free;
        }

        boolean canBe(Street street) {
            return fewestGirls(street) < CANNOT;
        }

        int fewestGirls(Street street) {
            return fewestFrom[(1 << street.girls) - 1];
        }

        /** Who for house k, where it can be. */
        int girlsFor(Street street, int k) {
            int free = (1 << street.girls) - 1;
            int set = 0;
            for (int house = 0; house <= k; house++) {
                free &= ~set;
                set = leastSet(street.weekOf(house), house, free);
            }
            return set;
        }

        private int leastSet(int week, int house, int free) {
            int set = 0;
            for (int i = 0; i < 1 << Integer.bitCount(free); i++) {
                if (rooms[set] >= week && girlsWith(house, free, set) == fewestFrom[house * SETS + free]) {
                    return set;
                }
                set = nextWithin(free, set);
            }
            return 0;
        }
    }

    /** Who gives which houses away. */
    private static final class Rumour {
        private int houses;
        private int girls;
        /** Sorts (bits) that each house puts by. */
        private final int[] putSorts = new int[HOUSES];
        /** Sorts (bits) that each girl has of each house. */
        private final int[] knownSorts = new int[GIRLS * HOUSES];
        private final int[] trainOfGirl = new int[GIRLS];
        private final int[] aboard = new int[GIRLS];

        void hear(Street street) {
            houses = street.houses;
            girls = street.girls;
            for (int house = 0; house < houses; house++) {
                putSorts[house] = sortsPut(street, house);
                for (int girl = 0; girl < girls; girl++) {
                    knownSorts[girl * HOUSES + house] = sortsKnown(street, girl, house);
                }
            }
        }

        private static int sortsPut(Street street, int house) {
            int bits = 0;
            for (int sort = 0; sort < SORTS; sort++) {
                if (street.numbers[Street.PUTS + house * SORTS + sort] > 0) {
                    bits |= 1 << sort;
                }
            }
            return bits;
        }

        private static int sortsKnown(Street street, int girl, int house) {
            int bits = 0;
            for (int sort = 0; sort < SORTS; sort++) {
                if (street.had(girl, house * SORTS + sort) > 0) {
                    bits |= 1 << sort;
                }
            }
            return bits;
        }

        int givenBy(int set) {
            int bits = 0;
            for (int house = 0; house < houses; house++) {
                int unknown = putSorts[house];
                for (int girl = 0; girl < girls; girl++) {
                    if ((set >> girl & 1) != 0) {
                        unknown &= ~knownSorts[girl * HOUSES + house];
                    }
                }
                if (putSorts[house] != 0 && unknown == 0) {
                    bits |= 1 << house;
                }
            }
            return bits;
        }

        /** The least of the fewest girls who give a house away (bits); NOT. */
        int fewestWhoGive() {
            int who = NOT;
            for (int set = 0; set < 1 << girls; set++) {
                boolean fewer = who < 0 || Integer.bitCount(set) < Integer.bitCount(who);
                if (fewer && givenBy(set) != 0) {
                    who = set;
                }
            }
            return who;
        }

        /** Sends all girls by the fewest trains: how many; NOT. */
        int board() {
            for (int trains = 0; trains <= girls; trains++) {
                for (int i = 0; i < GIRLS; i++) {
                    aboard[i] = 0;
                }
                if (boardFrom(0, 0, trains)) {
                    return trains;
                }
            }
            return NOT;
        }

        int trainOf(int girl) {
            return trainOfGirl[girl];
        }

        /** Sends the girls from this one on, the first way by them that goes; no deeper than there are girls. */
        private boolean boardFrom(int girl, int used, int trains) {
            if (girl >= girls || girl >= GIRLS) {
                return true;
            }
            for (int train = 0; train <= used && train < trains && train < GIRLS; train++) {
                int without = aboard[train];
                aboard[train] = without | 1 << girl;
                trainOfGirl[girl] = train;
                if (givenBy(aboard[train]) == 0 && boardFrom(girl + 1, Math.max(used, train + 1), trains)) {
                    return true;
                }
                aboard[train] = without;
            }
            return false;
        }
    }

    /** By which sets of girls what is heard is just so. */
    private static final class Voices {
        private final int[] said = new int[GIRLS * SORTS];
        int sets;
        int least;
        int certain;

        void listen(Street street, Shelves shelves, int shelf) {
            sets = 0;
            least = NOT;
            certain = 0;
            addUp(street);
            for (int set = 0; set < 1 << street.girls; set++) {
                if (isJustSo(set, street.girls, shelves, shelf)) {
                    certain = sets == 0 ? set : certain & set;
                    least = sets == 0 ? set : least;
                    sets++;
                }
            }
        }

        /** What each girl has of each sort, of all houses. */
        private void addUp(Street street) {
            for (int girl = 0; girl < street.girls; girl++) {
                for (int sort = 0; sort < SORTS; sort++) {
                    int all = 0;
                    for (int house = 0; house < street.houses; house++) {
                        all += street.had(girl, house * SORTS + sort);
                    }
                    said[girl * SORTS + sort] = all;
                }
            }
        }

        private boolean isJustSo(int set, int girls, Shelves shelves, int shelf) {
            for (int sort = 0; sort < SORTS; sort++) {
                int together = 0;
                for (int girl = 0; girl < girls; girl++) {
                    if ((set >> girl & 1) != 0) {
                        together += said[girl * SORTS + sort];
                    }
                }
                if (together != shelves.cell(shelf, sort)) {
                    return false;
                }
            }
            return true;
        }
    }

    /** Two houses that hire by turns. */
    private static final class Turns {
        static final int NOBODY = 7;

        private int free;
        /** What each girl is worth to the first house, then to the other one. */
        private final int[] gains = new int[2 * GIRLS];

        void weigh(Street street, int one, int other) {
            free = 0;
            for (int girl = 0; girl < street.girls; girl++) {
                if (street.hirer(girl) < 0) {
                    free |= 1 << girl;
                }
                int space = street.numbers[Street.ROOM + girl] - street.load[girl];
                gains[girl] = space - 2 * street.hadOf(girl, other);
                gains[GIRLS + girl] = space - 2 * street.hadOf(girl, one);
            }
        }

        int worth(int n) {
            return bestFrom(free, 0, n);
        }

        int opening(int n) {
            int best = -bestFrom(free, 1, n);
            int who = NOBODY;
            for (int girl = 0; girl < GIRLS; girl++) {
                if ((free >> girl & 1) != 0) {
                    int value = valueOf(girl, free, 0, n);
                    if (value > best) {
                        best = value;
                        who = girl;
                    }
                }
            }
            return who;
        }

        /** The most that whose turn it is gets less what the other one does; no deeper than there are turns. */
        private int bestFrom(int left, int turn, int n) {
            if (turn >= n || turn >= TURNS) {
                return 0;
            }
            int best = -bestFrom(left, turn + 1, n);
            for (int girl = 0; girl < GIRLS; girl++) {
                if ((left >> girl & 1) != 0) {
                    best = Math.max(best, valueOf(girl, left, turn, n));
                }
            }
            return best;
        }

        private int valueOf(int girl, int left, int turn, int n) {
            int gain = gains[turn % 2 * GIRLS + girl];
            return gain - bestFrom(left & ~(1 << girl), turn + 1, n);
        }
    }

    /** Grates of all kinds, and the bodies that ran in the latest act. */
    private static final class Grates {
        static final int MOST = 50, KINDS = 8, ACTS = 4, TRACED = 24, DEEPEST = 40;
        static final int HOLDS = 0, TELLS_OUT = 1, SPILLS = 2, SAYS = 3;
        static final int[] ABOVE = {-1, 0, 0, 2, 1, 3, 0, 4};
        /** Kind by kind, act by act: the body that stands there, or 0. */
        static final int[] BODIES = {
            1, 10, 11, 2,
            20, 0, 0, 0,
            0, 30, 0, 0,
            0, 41, 40, 0,
            0, 0, 50, 0,
            0, 0, 0, 60,
            70, 0, 0, 0,
            0, 80, 0, 81};

        private final int[] kinds = new int[MOST];
        int bodies;
        private final int[] traced = new int[TRACED];
        int ran;

        boolean isKind(int kind) {
            return kind >= 0 && kind < KINDS;
        }

        boolean isGrate(int number) {
            return number >= 0 && number < bodies;
        }

        int add(int kind) {
            if (!isKind(kind)) {
                return BAD;
            }
            if (bodies >= MOST) {
                return FULL;
            }
            kinds[bodies] = kind;
            bodies++;
            return bodies - 1;
        }

        /** Its kind, or -1 where there is no such grate. */
        int kindOf(int number) {
            return isGrate(number) ? kinds[number] : -1;
        }

        /** Whether a kind is k, or under it. */
        boolean isUnder(int kind, int k) {
            int above = kind;
            for (int i = 0; i < KINDS && isKind(above); i++) {
                if (above == k) {
                    return true;
                }
                above = ABOVE[above];
            }
            return false;
        }

        int ranAt(int i) {
            return i >= 0 && i < ran && i < TRACED ? traced[i] : BAD;
        }

        int run(int number, int act, int x) {
            ran = 0;
            if (!isGrate(number) || act < 0 || act >= ACTS) {
                return 0;
            }
            return runFrom(kinds[number], number, act, x, 0);
        }

        /** The kind, from this one up, that has a body of the act; -1. */
        private static int bearerOf(int kind, int act) {
            int above = kind;
            for (int i = 0; i < KINDS && above >= 0; i++) {
                if (BODIES[above * ACTS + act] != 0) {
                    return above;
                }
                above = ABOVE[above];
            }
            return -1;
        }

        private void note(int body) {
            if (ran < TRACED) {
                traced[ran] = body;
            }
            ran++;
        }

        /** Runs the body of an act that is found from a kind up, for grate n. */
        private int runFrom(int from, int n, int act, int x, int depth) {
            int kind = bearerOf(from, act);
            if (kind < 0 || depth >= DEEPEST) {
                return 0;
            }
            int own = kinds[n];
            int above = ABOVE[kind];
            int deeper = depth + 1;
            int body = BODIES[kind * ACTS + act];
            note(body);
            switch (body) {
                case 1: return x + n;
                case 2: return runFrom(own, n, TELLS_OUT, x, deeper) - runFrom(own, n, SPILLS, 1, deeper);
                case 10: return runFrom(own, n, HOLDS, x, deeper) * 2;
                case 11: return x ^ n;
                case 20: return runFrom(above, n, HOLDS, x, deeper) + 3;
                case 30: return -runFrom(above, n, TELLS_OUT, x, deeper);
                case 40: return runFrom(above, n, SPILLS, x, deeper) * 3;
                case 41: return runFrom(above, n, TELLS_OUT, x + 1, deeper);
                case 50: return runFrom(above, n, SPILLS, x, deeper) - runFrom(own, n, HOLDS, 2, deeper);
                case 60: return runFrom(above, n, SAYS, x, deeper) ^ 5;
                case 70: return runFrom(above, n, HOLDS, x, deeper) * 2;
                case 80: return runFrom(above, n, TELLS_OUT, x, deeper) + runFrom(own, n, SPILLS, 2, deeper);
                case 81: return runFrom(above, n, SAYS, x, deeper) - 1;
                default: return 0;
            }
        }
    }

    /** Shelves that hold nothing, a grate, or a row. */
    private static final class Shelves {
        static final int SHELVES = 6, LONGEST_ROW = 60;
        static final int BYTES = 0, SHORTS = 1, INTS = 2, LONGS = 3, BOOLEANS = 4;
        private static final int BARE = -2, GRATE = -1;

        /** What each shelf holds: BARE, GRATE, or the sort of its row. */
        private final int[] holding = new int[SHELVES];
        private final int[] grateNumbers = new int[SHELVES];
        private final int[] lengths = new int[SHELVES];
        private final long[] cells = new long[SHELVES * LONGEST_ROW];

        Shelves() {
            for (int shelf = 0; shelf < SHELVES; shelf++) {
                holding[shelf] = BARE;
            }
        }

        boolean isShelf(int shelf) {
            return shelf >= 0 && shelf < SHELVES;
        }

        boolean isSort(int sort) {
            return sort >= BYTES && sort <= BOOLEANS;
        }

        boolean isBare(int shelf) {
            return holding[shelf] == BARE;
        }

        boolean isRow(int shelf) {
            return holding[shelf] >= BYTES;
        }

        boolean isRowOf(int shelf, int sort) {
            return holding[shelf] == sort;
        }

        boolean areAlike(int shelf, int other) {
            return holding[shelf] == holding[other];
        }

        int length(int shelf) {
            return lengths[shelf];
        }

        boolean isPlace(int shelf, int i) {
            return i >= 0 && i < lengths[shelf];
        }

        /** Whether n elements from i on are all there; written so that no sum can wrap. */
        boolean areSpan(int shelf, int i, int n) {
            return i >= 0 && n >= 0 && n <= lengths[shelf] && i <= lengths[shelf] - n;
        }

        /** The number of the grate on a shelf, or -1. */
        int grateOn(int shelf) {
            return holding[shelf] == GRATE ? grateNumbers[shelf] : -1;
        }

        /** Lays a grate there, or (-1) nothing. */
        void lay(int shelf, int number) {
            holding[shelf] = number < 0 ? BARE : GRATE;
            grateNumbers[shelf] = number;
            lengths[shelf] = 0;
        }

        void layRow(int shelf, int sort, int n) {
            holding[shelf] = sort;
            lengths[shelf] = n;
            for (int i = 0; i < LONGEST_ROW; i++) {
                cells[shelf * LONGEST_ROW + i] = 0;
            }
        }

        long cell(int shelf, int i) {
            return cells[shelf * LONGEST_ROW + i];
        }

        void setCell(int shelf, int i, long v) {
            cells[shelf * LONGEST_ROW + i] = lowestBits(holding[shelf], v);
        }

        private static long lowestBits(int sort, long v) {
            switch (sort) {
                case BYTES: return (byte) v;
                case SHORTS: return (short) v;
                case INTS: return (int) v;
                case LONGS: return v;
                default: return v != 0 ? 1 : 0;
            }
        }

        void move(int shelf, int i, int other, int j, int n) {
            System.arraycopy(cells, shelf * LONGEST_ROW + i, cells, other * LONGEST_ROW + j, n);
        }
    }
}
