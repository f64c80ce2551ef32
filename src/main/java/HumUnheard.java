/**
 * A hum that not everybody hears: who hears which source at which hour, what plans switch off, what
 * presses, tones and letters tell of it, and what is best switched off.
 */
public final class HumUnheard {
    public static final int NONE = -1;

    private static final int NOBODY = -1;
    private static final int OTHER = -2;
    private static final int NOTHING = -3;
    private static final int BELOW = -4;
    private static final int BEYOND = -5;
    private static final int WRONG = -6;
    private static final int ROOM = -7;
    private static final int FINE = 0;
    /** force() answers plans, and NONE among them, so that its refusal needs a number of its own. */
    private static final int NO_SUCH_PLAN = -11;

    private static final int KIND_HUM = 0;
    private static final int KIND_FAN = 1;
    private static final int KIND_GROUND = 2;
    private static final int KIND_ROOM = 3;
    private static final int KIND_EAR = 4;
    private static final int KIND_TOLD = 5;
    private static final int KIND_FAR = 6;
    private static final int KIND_MIXED = 7;

    private static final int LAW_LOSS = 0;
    private static final int LAW_GAIN = 1;
    private static final int LAW_RIGHT = 2;
    private static final int LAW_WRONG = 3;
    private static final int LAW_SPAN = 4;
    private static final int LAW_PAPER = 5;
    private static final int LAWS = 6;
    private static final int[] FIRST_LAWS = {5, 10, 4, 1, 2, 0};
    private static final int[] LEAST_LAWS = {0, 0, 1, 1, 0, 0};
    private static final int[] MOST_LAWS = {99, 99, 9, 9, 99, 239};

    private static final int SIDE = 8;
    private static final int SPOTS = SIDE * SIDE;
    private static final int HOURS_A_DAY = 24;
    private static final int DAYS = 10;
    private static final int HOURS = DAYS * HOURS_A_DAY;
    private static final int MOST_PEOPLE = 12;
    private static final int MOST_SOURCES = 14;
    private static final int MOST_PLANS = 8;
    private static final int MOST_ITEMS = 8;
    private static final int MOST_PRESSES = 60;
    private static final int MOST_MATCHES = 20;
    private static final int MOST_LETTERS = 30;
    private static final int SHELVES = 8;
    private static final int MOST_ELEMENTS = 60;
    private static final int LEAST_TONE = 20;
    private static final int MOST_TONE = 99;
    private static final int MOST_OF_TWO_DIGITS = 99;
    private static final int MOST_PASSED = 100;
    private static final int MOST_BUDGET = 999;
    private static final int MOST_NIGHTS = 30;
    private static final int MOST_NEED = 1000000;
    private static final int MOST_STEPS = 1000;
    private static final int MOST_PER_CENT = 100;
    private static final int SIGNS_WEIGHED = 16;
    private static final int TRACE_KEPT = 20;

    private final Shelf[] shelves = new Shelf[SHELVES];
    /** It makes the town itself, since no constructor here hands on a part of what it makes. */
    private final Seeker seeker = new Seeker();
    private final Town town = seeker.town;
    private final Town kept = new Town();
    private final Reader reader = new Reader();
    private final Acts acts = new Acts();
    private final int[] refusals = new int[-ROOM + 1];
    private boolean hasImage = false;

    public HumUnheard() {
        for (int s = 0; s < SHELVES; s++) {
            shelves[s] = new Shelf();
        }
    }

    // ---- shelves ----

    public int row(int s, int sort, int n) {
        if (!isShelf(s)) {
            return refuse(NOBODY);
        }
        if (n < 0) {
            return refuse(BELOW);
        }
        if (sort < Shelf.BYTES || sort > Shelf.LONGS) {
            return refuse(WRONG);
        }
        if (n > MOST_ELEMENTS) {
            return refuse(ROOM);
        }
        shelves[s].takeRow(sort, n);
        return 1;
    }

    public int set(int s, int i, long v) {
        int why = refusalOfRow(s);
        if (why != FINE) {
            return refuse(why);
        }
        if (!shelves[s].hasElement(i)) {
            return refuse(BEYOND);
        }
        shelves[s].put(i, v);
        return 1;
    }

    public int copy(int p, int q, int i, int j, int n) {
        if (!isShelf(p) || !isShelf(q)) {
            return refuse(NOBODY);
        }
        Shelf from = shelves[p];
        Shelf to = shelves[q];
        if (from.holdsSource() || to.holdsSource() || from.isOfOtherSort(to)) {
            return refuse(OTHER);
        }
        if (from.holdsNothing() || to.holdsNothing()) {
            return refuse(NOTHING);
        }
        if (n < 0) {
            return refuse(BELOW);
        }
        if (!from.hasElements(i, n) || !to.hasElements(j, n)) {
            return refuse(BEYOND);
        }
        from.copyElements(i, to, j, n);
        return 1;
    }

    public long element(int s, int i) {
        return isShelf(s) ? shelves[s].elementAt(i) : 0;
    }

    public int show(int s, int source) {
        if (!isShelf(s) || (source != NONE && !town.isSource(source))) {
            return refuse(NOBODY);
        }
        if (source == NONE) {
            shelves[s].becomeEmpty();
            return 0;
        }
        shelves[s].takeSource(source);
        return 1;
    }

    public int holds(int s) {
        return isShelf(s) ? shelves[s].content() : NONE;
    }

    public int says(int s, int kind) {
        if (!isShelf(s) || kind < KIND_HUM || kind > KIND_MIXED) {
            return refuse(NOBODY);
        }
        Shelf shelf = shelves[s];
        if (shelf.holdsRow()) {
            return refuse(OTHER);
        }
        int source = shelf.content();
        if (!town.isSource(source)) {
            return refuse(NOTHING);
        }
        if (!town.sources[source].isOfKind(kind)) {
            return refuse(OTHER);
        }
        return town.wordOf(source, kind);
    }

    // ---- the town ----

    public int person(int spot, int best, int least, int slope, boolean reads) {
        if (!isSpot(spot)) {
            return refuse(NOBODY);
        }
        if (!isTone(best) || !isWithin(least, 0, MOST_OF_TWO_DIGITS) || !isWithin(slope, 0, 9)) {
            return refuse(WRONG);
        }
        if (town.personCount >= MOST_PEOPLE) {
            return refuse(ROOM);
        }
        return town.addPerson(spot, best, least, slope, reads);
    }

    public int go(int person, int spot) {
        if (!town.isPerson(person) || !isSpot(spot)) {
            return refuse(NOBODY);
        }
        int was = town.people[person].spot;
        town.people[person].spot = spot;
        return was;
    }

    public int source(int kind, int where, int tone, int strength) {
        if (!isWithin(kind, KIND_FAN, KIND_MIXED)) {
            return refuse(NOBODY);
        }
        if (kind == KIND_EAR ? !town.isPerson(where) : !isSpot(where)) {
            return refuse(NOBODY);
        }
        if (!isTone(tone) || !isWithin(strength, 1, MOST_OF_TWO_DIGITS)) {
            return refuse(WRONG);
        }
        if (town.sourceCount >= MOST_SOURCES) {
            return refuse(ROOM);
        }
        return town.addSource(kind, where, tone, strength);
    }

    public int hours(int source, int p, int q) {
        if (!town.isSource(source)) {
            return refuse(NOBODY);
        }
        if (!isWithin(p, 0, HOURS_A_DAY - 1) || !isWithin(q, 0, HOURS_A_DAY - 1)) {
            return refuse(WRONG);
        }
        Source changed = town.sources[source];
        int was = changed.hoursAsNumber();
        changed.from = p;
        changed.till = q;
        return was;
    }

    public int cost(int source, int v) {
        if (!town.isSource(source)) {
            return refuse(NOBODY);
        }
        if (!isWithin(v, 0, MOST_OF_TWO_DIGITS)) {
            return refuse(WRONG);
        }
        int was = town.sources[source].price;
        town.sources[source].price = v;
        return was;
    }

    public int off(int source, boolean is) {
        if (!town.isSource(source)) {
            return refuse(NOBODY);
        }
        int was = town.offByHand;
        town.offByHand = is ? was | bit(source) : was & ~bit(source);
        return town.offByHand == was ? 0 : 1;
    }

    public int size(int spot, int v) {
        if (!isSpot(spot)) {
            return refuse(NOBODY);
        }
        if (!isWithin(v, 0, 9)) {
            return refuse(WRONG);
        }
        int was = town.sizes[spot];
        town.sizes[spot] = v;
        return was;
    }

    public int weather(int day, int v) {
        if (!isWithin(day, 0, DAYS - 1) || !isWithin(v, 0, 1)) {
            return refuse(WRONG);
        }
        int was = town.storms[day];
        town.storms[day] = v;
        return was;
    }

    public int pass(int n) {
        if (!isWithin(n, 1, MOST_PASSED) || !isHour(town.now + n)) {
            return refuse(WRONG);
        }
        town.now += n;
        return town.now;
    }

    // ---- texts ----

    public int laws(int s) {
        int why = refusalOfRow(s);
        if (why != FINE) {
            return refuse(why);
        }
        if (!reader.readLaws(shelves[s], town.laws)) {
            return refuse(WRONG);
        }
        System.arraycopy(reader.lawsRead, 0, town.laws, 0, LAWS);
        return reader.lawsTold;
    }

    public int law(int which) {
        return isWithin(which, 0, LAWS - 1) ? town.laws[which] : refuse(BEYOND);
    }

    public int plan(int s) {
        int why = refusalOfRow(s);
        if (why != FINE) {
            return refuse(why);
        }
        if (!reader.readPlan(shelves[s], town.sourceCount)) {
            return refuse(WRONG);
        }
        if (town.planCount >= MOST_PLANS) {
            return refuse(ROOM);
        }
        return town.addPlan(reader.planRead);
    }

    public int fault() {
        return reader.faultFound;
    }

    public int force(int plan) {
        if (plan != NONE && !isWithin(plan, 0, town.planCount - 1)) {
            refuse(NOBODY);
            return NO_SUCH_PLAN;
        }
        int was = town.planInForce;
        town.planInForce = plan;
        return was;
    }

    // ---- what sounds, reaches and is heard ----

    public int sounds(int source, int hour) {
        if (!town.isSource(source) || !isHour(hour)) {
            return NONE;
        }
        return hasBit(town.soundingAt(hour), source) ? 1 : 0;
    }

    public int reach(int source, int spot) {
        return town.isSource(source) && isSpot(spot) ? town.levelAt(source, spot) : NONE;
    }

    public int needs(int person, int tone) {
        return town.isPerson(person) && isTone(tone) ? town.people[person].needFor(tone) : NONE;
    }

    public int hears(int person, int hour) {
        return town.isPerson(person) && isHour(hour) ? town.heardBy(person, hour) : NONE;
    }

    public int loudest(int person, int hour) {
        return town.isPerson(person) && isHour(hour) ? town.loudestFor(person, hour) : NONE;
    }

    // ---- what is told ----

    public int press(int person, boolean heard) {
        if (!town.isPerson(person)) {
            return refuse(NOBODY);
        }
        if (town.diary.presses >= MOST_PRESSES) {
            return refuse(ROOM);
        }
        town.diary.addPress(person, town.now, town.people[person].spot, heard);
        return town.diary.presses;
    }

    public int pressed(int person, int s, int i, int n) {
        if (!town.isPerson(person)) {
            return refuse(NOBODY);
        }
        int why = refusalOfRow(s);
        if (why != FINE) {
            return refuse(why);
        }
        Shelf row = shelves[s];
        if (n < 0) {
            return refuse(BELOW);
        }
        if (!row.hasElements(i, n)) {
            return refuse(BEYOND);
        }
        if (town.now < n) {
            return refuse(WRONG);
        }
        if (town.diary.presses + row.countPresses(i, n) > MOST_PRESSES) {
            return refuse(ROOM);
        }
        town.addPresses(person, row, i, n);
        return town.diary.presses;
    }

    public int match(int person, int tone) {
        if (!town.isPerson(person)) {
            return refuse(NOBODY);
        }
        if (!isTone(tone)) {
            return refuse(WRONG);
        }
        if (town.diary.matches >= MOST_MATCHES) {
            return refuse(ROOM);
        }
        town.diary.addMatch(person, tone);
        return town.diary.matches;
    }

    public int letter(int person, int since) {
        if (!town.isPerson(person)) {
            return refuse(NOBODY);
        }
        if (!isWithin(since, 0, town.now)) {
            return refuse(WRONG);
        }
        if (town.letters.count >= MOST_LETTERS) {
            return refuse(ROOM);
        }
        town.letters.add(person, town.now, since);
        return town.letters.count;
    }

    public long odds(int person, int source) {
        if (!town.isPerson(person) || !town.isSource(source)) {
            return 0;
        }
        seeker.weigh(person);
        return seeker.worths[source];
    }

    public int sure(int person, int n) {
        if (!town.isPerson(person) || !isWithin(n, 1, MOST_PER_CENT)) {
            return NONE;
        }
        seeker.weigh(person);
        return seeker.surest(n);
    }

    public int could(int person, int tone) {
        if (!town.isPerson(person) || !isTone(tone)) {
            return NONE;
        }
        return town.airborne() & town.nearTo(tone) & town.audibleTo(person, town.people[person].spot);
    }

    public int lacks(int person) {
        return town.isPerson(person) ? town.lackOf(person) : NONE;
    }

    public int told(int what) {
        return isWithin(what, 0, 2) ? town.countLetters(what) : refuse(BEYOND);
    }

    // ---- what is best ----

    public int rid(int set, int a, int b) {
        if ((set & ~town.allSources()) != 0) {
            return refuse(NOBODY);
        }
        return areHours(a, b) ? seeker.countRid(set, a, b) : refuse(WRONG);
    }

    public int best(int budget, int a, int b) {
        if (!isWithin(budget, 0, MOST_BUDGET) || !areHours(a, b)) {
            return refuse(WRONG);
        }
        return seeker.bestSet(budget, a, b);
    }

    public int lots(int n, int c) {
        if (!isWithin(n, 0, MOST_NIGHTS) || c < 0) {
            return refuse(WRONG);
        }
        int ways = 0;
        int waysOfSome = 1;
        for (int some = 0; some <= n; some++) {
            if (some >= c) {
                ways += waysOfSome;
            }
            waysOfSome = (int) ((long) waysOfSome * (n - some) / (some + 1));
        }
        return ways;
    }

    public int need(int k) {
        return isWithin(k, 0, MOST_NEED) ? doublingsTo(k + 1) : refuse(WRONG);
    }

    public int beats(int person, int hour) {
        return town.isPerson(person) && isHour(hour) ? town.countBeats(town.heardBy(person, hour)) : NONE;
    }

    public int halve(int n) {
        return isWithin(n, 1, MOST_STEPS) ? doublingsTo(n) : refuse(WRONG);
    }

    public int meter(int spot, int least, int a, int b) {
        if (!isSpot(spot)) {
            return refuse(NOBODY);
        }
        if (!isWithin(least, 1, MOST_OF_TWO_DIGITS) || !areHours(a, b)) {
            return refuse(WRONG);
        }
        return seeker.countMetered(spot, least, town.soundingWithin(a, b));
    }

    public int place(int least, int a, int b) {
        if (!isWithin(least, 1, MOST_OF_TWO_DIGITS) || !areHours(a, b)) {
            return refuse(WRONG);
        }
        return seeker.spotForMeter(least, a, b);
    }

    public int bed(int person, int a, int b) {
        if (!town.isPerson(person)) {
            return refuse(NOBODY);
        }
        return areHours(a, b) ? seeker.spotForBed(person, a, b) : refuse(WRONG);
    }

    // ---- acts, the image, the counts ----

    public int act(int source, int act, int x) {
        acts.forget();
        if (!town.isSource(source)) {
            return 0;
        }
        return acts.run(source, town.sources[source], act, x);
    }

    public int trace(int i) {
        return acts.bodyAt(i);
    }

    public int image() {
        kept.becomeLike(town);
        hasImage = true;
        return town.now;
    }

    public int restore() {
        if (!hasImage) {
            return refuse(WRONG);
        }
        town.becomeLike(kept);
        for (int s = 0; s < SHELVES; s++) {
            if (shelves[s].holdsSource() && !town.isSource(shelves[s].content())) {
                shelves[s].becomeEmpty();
            }
        }
        return town.now;
    }

    public int status(int what) {
        switch (what) {
            case 0:
                return town.sourceCount;
            case 1:
                return town.personCount;
            case 2:
                return town.diary.presses;
            case 3:
                return town.diary.matches;
            case 4:
                return town.letters.count;
            case 5:
                return town.planCount;
            case 6:
                return town.now;
            case 7:
                return acts.ran;
            default:
                return isWithin(what, 11, 17) ? refusals[what - 10] : NONE;
        }
    }

    // ---- refusals and what they look at ----

    private int refuse(int why) {
        if (isWithin(why, ROOM, NOBODY)) {
            refusals[-why]++;
        }
        return why;
    }

    private int refusalOfRow(int s) {
        if (!isShelf(s)) {
            return NOBODY;
        }
        if (shelves[s].holdsSource()) {
            return OTHER;
        }
        return shelves[s].holdsNothing() ? NOTHING : FINE;
    }

    private static boolean isWithin(int v, int least, int most) {
        return v >= least && v <= most;
    }

    private static boolean isShelf(int s) {
        return isWithin(s, 0, SHELVES - 1);
    }

    private static boolean isSpot(int spot) {
        return isWithin(spot, 0, SPOTS - 1);
    }

    private static boolean isTone(int tone) {
        return isWithin(tone, LEAST_TONE, MOST_TONE);
    }

    private static boolean isHour(int hour) {
        return isWithin(hour, 0, HOURS - 1);
    }

    private static boolean areHours(int a, int b) {
        return isHour(a) && isHour(b) && a <= b;
    }

    private static int bit(int i) {
        return 1 << i;
    }

    private static boolean hasBit(int bits, int i) {
        return (bits >> i & 1) != 0;
    }

    private static boolean beat(int tone, int other) {
        int apart = Math.abs(tone - other);
        return apart >= 1 && apart <= 4;
    }

    private static int farApart(int spot, int other) {
        return Math.abs(spot / SIDE - other / SIDE) + Math.abs(spot % SIDE - other % SIDE);
    }

    /** The least n for which 2 to the n is not below v (v up to a million). */
    private static int doublingsTo(int v) {
        int n = 0;
        while (n < MOST_NIGHTS && (1 << n) < v) {
            n++;
        }
        return n;
    }

    /** What one SHELF holds. Its elements are made once, since every new ROW may use them again. */
    private static final class Shelf {
        static final int BYTES = 0;
        static final int SHORTS = 1;
        static final int INTS = 2;
        static final int LONGS = 3;
        private static final int CONTENT_OF_ROWS = 100;

        /** As holds() tells it: NONE, a SOURCE's number, or 100 and the SORT of a ROW. */
        private int content = NONE;
        private int count = 0;
        private final long[] elements = new long[MOST_ELEMENTS];

        int content() {
            return content;
        }

        int count() {
            return count;
        }

        boolean holdsNothing() {
            return content == NONE;
        }

        boolean holdsRow() {
            return content >= CONTENT_OF_ROWS;
        }

        boolean holdsSource() {
            return !holdsNothing() && !holdsRow();
        }

        boolean isOfOtherSort(Shelf other) {
            return holdsRow() && other.holdsRow() && content != other.content;
        }

        void becomeEmpty() {
            content = NONE;
            count = 0;
        }

        void takeSource(int source) {
            content = source;
            count = 0;
        }

        void takeRow(int sort, int n) {
            content = CONTENT_OF_ROWS + sort;
            count = n;
            for (int i = 0; i < n; i++) {
                elements[i] = 0;
            }
        }

        boolean hasElement(int i) {
            return i >= 0 && i < count;
        }

        boolean hasElements(int i, int n) {
            return i >= 0 && i <= count && n >= 0 && n <= count - i;
        }

        long elementAt(int i) {
            return hasElement(i) ? elements[i] : 0;
        }

        int intAt(int i) {
            return (int) elementAt(i);
        }

        void put(int i, long v) {
            if (hasElement(i)) {
                elements[i] = lowestBits(v);
            }
        }

        private long lowestBits(long v) {
            switch (content - CONTENT_OF_ROWS) {
                case BYTES:
                    return (byte) v;
                case SHORTS:
                    return (short) v;
                case INTS:
                    return (int) v;
                default:
                    return v;
            }
        }

        void copyElements(int i, Shelf to, int j, int n) {
            if (hasElements(i, n) && to.hasElements(j, n)) {
                System.arraycopy(elements, i, to.elements, j, n);
            }
        }

        boolean isPress(int i) {
            int v = intAt(i);
            return hasElement(i) && (v == 0 || v == 1);
        }

        int countPresses(int i, int n) {
            int presses = 0;
            for (int k = 0; k < n; k++) {
                if (isPress(i + k)) {
                    presses++;
                }
            }
            return presses;
        }
    }

    private static final class Source {
        int kind;
        int where;
        int tone;
        int strength;
        int from;
        int till;
        int price;
        /** Those (bits) whose TONES beat with this one's. */
        int beating;

        void begin(int itsKind, int itsWhere, int itsTone, int itsStrength) {
            kind = itsKind;
            where = itsWhere;
            tone = itsTone;
            strength = itsStrength;
            from = 0;
            till = HOURS_A_DAY - 1;
            price = 0;
            beating = 0;
        }

        void becomeLike(Source other) {
            kind = other.kind;
            where = other.where;
            tone = other.tone;
            strength = other.strength;
            from = other.from;
            till = other.till;
            price = other.price;
            beating = other.beating;
        }

        boolean isFan() {
            return kind == KIND_FAN || kind == KIND_MIXED;
        }

        boolean isAirborne() {
            return kind != KIND_EAR && kind != KIND_TOLD;
        }

        boolean isOfKind(int wanted) {
            return wanted == KIND_HUM || wanted == kind || (wanted == KIND_FAN && isFan());
        }

        boolean runsAt(int hourOfDay) {
            if (from > till) {
                return hourOfDay >= from || hourOfDay <= till;
            }
            return hourOfDay >= from && hourOfDay <= till;
        }

        int hoursAsNumber() {
            return 100 * from + till;
        }

        /** The LEVEL of an airborne one, without GAIN. */
        int levelWith(int loss, int far, boolean stands) {
            int plain = Math.max(0, strength - loss * far);
            switch (kind) {
                case KIND_GROUND:
                    return Math.max(0, strength - loss * far / 4);
                case KIND_ROOM:
                    return stands ? 2 * plain : plain;
                case KIND_FAR:
                    return Math.max(0, strength - loss);
                case KIND_MIXED:
                    return plain > 0 ? plain + 6 : 0;
                default:
                    return plain;
            }
        }
    }

    private static final class Person {
        int spot;
        int bestTone;
        int least;
        int slope;
        boolean reads;

        void begin(int itsSpot, int itsBestTone, int itsLeast, int itsSlope, boolean itReads) {
            spot = itsSpot;
            bestTone = itsBestTone;
            least = itsLeast;
            slope = itsSlope;
            reads = itReads;
        }

        void becomeLike(Person other) {
            begin(other.spot, other.bestTone, other.least, other.slope, other.reads);
        }

        int needFor(int tone) {
            return least + slope * Math.abs(tone - bestTone);
        }
    }

    /** The ITEMS of a PLAN, a column for each thing that an ITEM tells. */
    private static final class Plan {
        int count = 0;
        private final int[] source = new int[MOST_ITEMS];
        private final int[] from = new int[MOST_ITEMS];
        private final int[] till = new int[MOST_ITEMS];
        /** 0, if the ITEM does not come again. */
        private final int[] each = new int[MOST_ITEMS];
        /** 1 for off, 0 for on. */
        private final int[] isOff = new int[MOST_ITEMS];

        void add(boolean off, int itsSource, int itsFrom, int itsTill, int itsEach) {
            if (count < MOST_ITEMS) {
                source[count] = itsSource;
                from[count] = itsFrom;
                till[count] = itsTill;
                each[count] = itsEach;
                isOff[count] = off ? 1 : 0;
                count++;
            }
        }

        void becomeLike(Plan other) {
            count = other.count;
            System.arraycopy(other.source, 0, source, 0, MOST_ITEMS);
            System.arraycopy(other.from, 0, from, 0, MOST_ITEMS);
            System.arraycopy(other.till, 0, till, 0, MOST_ITEMS);
            System.arraycopy(other.each, 0, each, 0, MOST_ITEMS);
            System.arraycopy(other.isOff, 0, isOff, 0, MOST_ITEMS);
        }

        private boolean isOfHour(int item, int hour) {
            int since = hour - from[item];
            if (since < 0) {
                return false;
            }
            if (each[item] > 0) {
                since %= each[item];
            }
            return since <= till[item] - from[item];
        }

        /** The SOURCES (bits) that are OFF in an HOUR, of those that are so by hand. */
        int change(int off, int hour) {
            int changed = off;
            for (int item = 0; item < count && item < MOST_ITEMS; item++) {
                if (isOfHour(item, hour)) {
                    int its = bit(source[item]);
                    changed = isOff[item] == 1 ? changed | its : changed & ~its;
                }
            }
            return changed;
        }
    }

    /** PRESSES and MATCHES together, since WORTH goes by the order in which they came. */
    private static final class Diary {
        private static final int ROOM_FOR_BOTH = MOST_PRESSES + MOST_MATCHES;

        int count = 0;
        int presses = 0;
        int matches = 0;
        final int[] who = new int[ROOM_FOR_BOTH];
        /** Of a PRESS its HOUR, of a MATCH NONE. */
        final int[] hour = new int[ROOM_FOR_BOTH];
        final int[] spot = new int[ROOM_FOR_BOTH];
        /** Of a PRESS 1, if it was heard, else 0; of a MATCH its TONE. */
        final int[] what = new int[ROOM_FOR_BOTH];

        void addPress(int person, int itsHour, int itsSpot, boolean heard) {
            if (presses < MOST_PRESSES) {
                presses++;
                add(person, itsHour, itsSpot, heard ? 1 : 0);
            }
        }

        void addMatch(int person, int tone) {
            if (matches < MOST_MATCHES) {
                matches++;
                add(person, NONE, 0, tone);
            }
        }

        private void add(int person, int itsHour, int itsSpot, int itsWhat) {
            if (count < ROOM_FOR_BOTH) {
                who[count] = person;
                hour[count] = itsHour;
                spot[count] = itsSpot;
                what[count] = itsWhat;
                count++;
            }
        }

        boolean isMatch(int i) {
            return hour[i] == NONE;
        }

        void becomeLike(Diary other) {
            count = other.count;
            presses = other.presses;
            matches = other.matches;
            System.arraycopy(other.who, 0, who, 0, ROOM_FOR_BOTH);
            System.arraycopy(other.hour, 0, hour, 0, ROOM_FOR_BOTH);
            System.arraycopy(other.spot, 0, spot, 0, ROOM_FOR_BOTH);
            System.arraycopy(other.what, 0, what, 0, ROOM_FOR_BOTH);
        }
    }

    private static final class Letters {
        int count = 0;
        final int[] who = new int[MOST_LETTERS];
        final int[] came = new int[MOST_LETTERS];
        final int[] since = new int[MOST_LETTERS];

        void add(int person, int itsHour, int itsSince) {
            if (count < MOST_LETTERS) {
                who[count] = person;
                came[count] = itsHour;
                since[count] = itsSince;
                count++;
            }
        }

        void becomeLike(Letters other) {
            count = other.count;
            System.arraycopy(other.who, 0, who, 0, MOST_LETTERS);
            System.arraycopy(other.came, 0, came, 0, MOST_LETTERS);
            System.arraycopy(other.since, 0, since, 0, MOST_LETTERS);
        }
    }

    /** All that THE IMAGE keeps, and what follows from it alone. */
    private static final class Town {
        int now = 0;
        int personCount = 0;
        int sourceCount = 0;
        int planCount = 0;
        int planInForce = NONE;
        /** SOURCES as bits. */
        int offByHand = 0;
        final Person[] people = new Person[MOST_PEOPLE];
        final Source[] sources = new Source[MOST_SOURCES];
        final Plan[] plans = new Plan[MOST_PLANS];
        final Diary diary = new Diary();
        final Letters letters = new Letters();
        final int[] sizes = new int[SPOTS];
        /** Of each DAY 1, if it has storm, else 0. */
        final int[] storms = new int[DAYS];
        final int[] laws = new int[LAWS];

        Town() {
            for (int i = 0; i < MOST_PEOPLE; i++) {
                people[i] = new Person();
            }
            for (int i = 0; i < MOST_SOURCES; i++) {
                sources[i] = new Source();
            }
            for (int i = 0; i < MOST_PLANS; i++) {
                plans[i] = new Plan();
            }
            System.arraycopy(FIRST_LAWS, 0, laws, 0, LAWS);
        }

        void becomeLike(Town other) {
            now = other.now;
            personCount = other.personCount;
            sourceCount = other.sourceCount;
            planCount = other.planCount;
            planInForce = other.planInForce;
            offByHand = other.offByHand;
            for (int i = 0; i < personCount; i++) {
                people[i].becomeLike(other.people[i]);
            }
            for (int i = 0; i < sourceCount; i++) {
                sources[i].becomeLike(other.sources[i]);
            }
            for (int i = 0; i < planCount; i++) {
                plans[i].becomeLike(other.plans[i]);
            }
            diary.becomeLike(other.diary);
            letters.becomeLike(other.letters);
            System.arraycopy(other.sizes, 0, sizes, 0, SPOTS);
            System.arraycopy(other.storms, 0, storms, 0, DAYS);
            System.arraycopy(other.laws, 0, laws, 0, LAWS);
        }

        boolean isPerson(int person) {
            return person >= 0 && person < personCount;
        }

        boolean isSource(int source) {
            return source >= 0 && source < sourceCount;
        }

        int allSources() {
            return bit(sourceCount) - 1;
        }

        int addPerson(int spot, int bestTone, int least, int slope, boolean reads) {
            people[personCount].begin(spot, bestTone, least, slope, reads);
            personCount++;
            return personCount - 1;
        }

        int addSource(int kind, int where, int tone, int strength) {
            Source added = sources[sourceCount];
            added.begin(kind, where, tone, strength);
            for (int i = 0; i < sourceCount; i++) {
                if (beat(tone, sources[i].tone)) {
                    added.beating |= bit(i);
                    sources[i].beating |= bit(sourceCount);
                }
            }
            sourceCount++;
            return sourceCount - 1;
        }

        int addPlan(Plan read) {
            plans[planCount].becomeLike(read);
            planCount++;
            return planCount - 1;
        }

        void addPresses(int person, Shelf row, int i, int n) {
            for (int k = 0; k < n; k++) {
                if (row.isPress(i + k)) {
                    diary.addPress(person, now - n + k, people[person].spot, row.intAt(i + k) == 1);
                }
            }
        }

        int wordOf(int source, int kind) {
            Source its = sources[source];
            switch (kind) {
                case KIND_HUM:
                    return its.tone;
                case KIND_FAN:
                case KIND_MIXED:
                    return its.hoursAsNumber();
                case KIND_TOLD:
                    return laws[LAW_PAPER];
                case KIND_FAR:
                    return countStorms();
                default:
                    return its.where;
            }
        }

        private int countStorms() {
            int days = 0;
            for (int day = 0; day < DAYS; day++) {
                days += storms[day];
            }
            return days;
        }

        // ---- what sounds ----

        /** The SOURCES (bits) that SOUND in an HOUR. */
        int soundingAt(int hour) {
            int on = allSources() & ~offAt(hour);
            int fans = on & fansRunningAt(hour);
            int sounding = 0;
            for (int i = 0; i < sourceCount; i++) {
                if (hasBit(on, i) && isDue(i, hour, fans)) {
                    sounding |= bit(i);
                }
            }
            return sounding;
        }

        private int offAt(int hour) {
            if (planInForce < 0 || planInForce >= planCount) {
                return offByHand;
            }
            return plans[planInForce].change(offByHand, hour);
        }

        private int fansRunningAt(int hour) {
            int fans = 0;
            for (int i = 0; i < sourceCount; i++) {
                if (sources[i].isFan() && sources[i].runsAt(hour % HOURS_A_DAY)) {
                    fans |= bit(i);
                }
            }
            return fans;
        }

        /** Whether a SOURCE that isn't OFF SOUNDS, with the FANS (bits) that do so as FANS. */
        private boolean isDue(int source, int hour, int fans) {
            switch (sources[source].kind) {
                case KIND_FAN:
                    return hasBit(fans, source);
                case KIND_MIXED:
                    return hasBit(fans, source) && (fans & sources[source].beating) != 0;
                case KIND_TOLD:
                    return hour >= laws[LAW_PAPER];
                case KIND_FAR:
                    return storms[hour / HOURS_A_DAY] == 1;
                default:
                    return true;
            }
        }

        /** The SOURCES (bits) that SOUND in some of HOURS a to b. */
        int soundingWithin(int a, int b) {
            int sounding = 0;
            for (int hour = a; hour <= b && sounding != allSources(); hour++) {
                sounding |= soundingAt(hour);
            }
            return sounding;
        }

        // ---- what reaches ----

        int levelAt(int source, int spot) {
            Source its = sources[source];
            if (!its.isAirborne()) {
                return its.strength;
            }
            boolean stands = sizes[spot] > 0 && its.tone % sizes[spot] == 0;
            int level = its.levelWith(laws[LAW_LOSS], farApart(its.where, spot), stands);
            return stands && level > 0 ? level + laws[LAW_GAIN] : level;
        }

        // ---- what is heard ----

        /** The SOURCES (bits) that a person would HEAR at a SPOT, were all to SOUND. */
        int audibleTo(int person, int spot) {
            int audible = 0;
            for (int i = 0; i < sourceCount; i++) {
                if (isForEars(person, i, levelAt(i, spot))) {
                    audible |= bit(i);
                }
            }
            return audible;
        }

        private boolean isForEars(int person, int source, int level) {
            Source its = sources[source];
            switch (its.kind) {
                case KIND_EAR:
                    return its.where == person;
                case KIND_TOLD:
                    return people[person].reads;
                default:
                    return level > 0 && level >= people[person].needFor(its.tone);
            }
        }

        int heardBy(int person, int hour) {
            return audibleTo(person, people[person].spot) & soundingAt(hour);
        }

        int loudestFor(int person, int hour) {
            int heard = heardBy(person, hour);
            int loudest = NONE;
            int greatest = 0;
            for (int i = 0; i < sourceCount; i++) {
                int level = hasBit(heard, i) ? levelAt(i, people[person].spot) : 0;
                if (level > greatest) {
                    loudest = i;
                    greatest = level;
                }
            }
            return loudest;
        }

        int countBeats(int heard) {
            int ends = 0;
            for (int i = 0; i < sourceCount; i++) {
                if (hasBit(heard, i)) {
                    ends += Integer.bitCount(heard & sources[i].beating);
                }
            }
            return ends / 2;
        }

        /** The SOURCES (bits) that are no EARS, nor TOLD. */
        int airborne() {
            int airborne = 0;
            for (int i = 0; i < sourceCount; i++) {
                if (sources[i].isAirborne()) {
                    airborne |= bit(i);
                }
            }
            return airborne;
        }

        /** The SOURCES (bits) of a TONE no more than SPAN away. */
        int nearTo(int tone) {
            int near = 0;
            for (int i = 0; i < sourceCount; i++) {
                if (Math.abs(tone - sources[i].tone) <= laws[LAW_SPAN]) {
                    near |= bit(i);
                }
            }
            return near;
        }

        int lackOf(int person) {
            Person its = people[person];
            int least = NONE;
            for (int i = 0; i < sourceCount; i++) {
                if (sources[i].isAirborne()) {
                    int lack = Math.max(0, its.needFor(sources[i].tone) - levelAt(i, its.spot));
                    least = least == NONE ? lack : Math.min(least, lack);
                }
            }
            return least;
        }

        int countLetters(int what) {
            int told = 0;
            for (int i = 0; i < letters.count; i++) {
                boolean counts = letters.came[i] >= laws[LAW_PAPER];
                if (what == 1) {
                    counts = counts && letters.since[i] < laws[LAW_PAPER];
                } else if (what == 2) {
                    counts = counts && heardBy(letters.who[i], letters.came[i]) == 0;
                }
                if (counts) {
                    told++;
                }
            }
            return told;
        }
    }

    /** What takes a search or a sum over a town: WORTHS, sets and SPOTS. */
    private static final class Seeker {
        final Town town = new Town();
        final long[] worths = new long[MOST_SOURCES];
        /** For each of the people who can be RID the SOURCES (bits) that it takes. */
        private final int[] wanted = new int[MOST_PEOPLE];
        private int wantedCount = 0;
        private int budget = 0;
        private int bestSet = 0;
        private int bestRid = 0;
        private int bestPrice = 0;

        // ---- worths ----

        /** Makes the WORTHS of all SOURCES for a person. */
        void weigh(int person) {
            for (int i = 0; i < town.sourceCount; i++) {
                worths[i] = 1;
            }
            int left = SIGNS_WEIGHED;
            for (int i = town.diary.count - 1; i >= 0 && left > 0; i--) {
                if (town.diary.who[i] == person) {
                    multiply(agreeing(person, i));
                    left--;
                }
            }
        }

        /** The SOURCES (bits) with which a PRESS or a MATCH AGREES. */
        private int agreeing(int person, int i) {
            Diary diary = town.diary;
            if (diary.isMatch(i)) {
                return town.nearTo(diary.what[i]);
            }
            int heard = town.audibleTo(person, diary.spot[i]) & town.soundingAt(diary.hour[i]);
            return diary.what[i] == 1 ? heard : ~heard;
        }

        private void multiply(int agreeing) {
            for (int i = 0; i < town.sourceCount; i++) {
                worths[i] *= town.laws[hasBit(agreeing, i) ? LAW_RIGHT : LAW_WRONG];
            }
        }

        /** The SOURCE that is SURE by the WORTHS made last. */
        int surest(int n) {
            int surest = NONE;
            long greatest = 0;
            long sum = 0;
            for (int i = 0; i < town.sourceCount; i++) {
                sum += worths[i];
                if (worths[i] > greatest) {
                    surest = i;
                    greatest = worths[i];
                } else if (worths[i] == greatest) {
                    surest = NONE;
                }
            }
            return MOST_PER_CENT * greatest >= n * sum ? surest : NONE;
        }

        // ---- sets of sources ----

        int countRid(int set, int a, int b) {
            int sounding = town.soundingWithin(a, b);
            int rid = 0;
            for (int i = 0; i < town.personCount; i++) {
                if ((heardOf(i, sounding) & ~set) == 0) {
                    rid++;
                }
            }
            return rid;
        }

        private int heardOf(int person, int sounding) {
            return town.audibleTo(person, town.people[person].spot) & sounding;
        }

        /**
         * Only the sets that are just what some of the people take need a look: any other one is no better
         * than the one of these that lies in it, which costs no more and is less as bits.
         */
        int bestSet(int itsBudget, int a, int b) {
            int sounding = town.soundingWithin(a, b);
            int airborne = town.airborne();
            budget = itsBudget;
            bestSet = 0;
            bestRid = 0;
            bestPrice = 0;
            wantedCount = 0;
            for (int i = 0; i < town.personCount; i++) {
                int heard = heardOf(i, sounding);
                if ((heard & ~airborne) == 0) {
                    wanted[wantedCount] = heard;
                    wantedCount++;
                }
            }
            choose(0, 0, 0, 0);
            return bestSet;
        }

        /** Goes on from people next, with a set of a price by which some are RID already. */
        private void choose(int next, int set, int price, int rid) {
            if (price > budget || rid + wantedCount - next < bestRid) {
                return;
            }
            if (next >= wantedCount) {
                keepIfBetter(set, price, rid);
                return;
            }
            int more = wanted[next] & ~set;
            choose(next + 1, set | more, price + priceOf(more), rid + 1);
            if (more != 0) {
                choose(next + 1, set, price, rid);
            }
        }

        private void keepIfBetter(int set, int price, int rid) {
            boolean better = rid > bestRid;
            if (rid == bestRid) {
                better = price < bestPrice || (price == bestPrice && set < bestSet);
            }
            if (better) {
                bestSet = set;
                bestPrice = price;
                bestRid = rid;
            }
        }

        private int priceOf(int set) {
            int price = 0;
            for (int i = 0; i < town.sourceCount && set >> i != 0; i++) {
                if (hasBit(set, i)) {
                    price += town.sources[i].price;
                }
            }
            return price;
        }

        // ---- spots ----

        int countMetered(int spot, int least, int sounding) {
            int metered = 0;
            for (int i = 0; i < town.sourceCount; i++) {
                if (hasBit(sounding, i) && town.sources[i].isAirborne() && town.levelAt(i, spot) >= least) {
                    metered++;
                }
            }
            return metered;
        }

        int spotForMeter(int least, int a, int b) {
            int sounding = town.soundingWithin(a, b);
            int found = 0;
            int most = 0;
            for (int spot = 0; spot < SPOTS; spot++) {
                int metered = countMetered(spot, least, sounding);
                if (metered > most) {
                    found = spot;
                    most = metered;
                }
            }
            return found;
        }

        int spotForBed(int person, int a, int b) {
            int sounding = town.soundingWithin(a, b);
            int home = town.people[person].spot;
            int found = home;
            int fewest = Integer.bitCount(heardOf(person, sounding));
            for (int spot = 0; spot < SPOTS; spot++) {
                int heard = Integer.bitCount(town.audibleTo(person, spot) & sounding);
                boolean nearer = farApart(spot, home) < farApart(found, home);
                if (heard < fewest || (heard == fewest && nearer)) {
                    found = spot;
                    fewest = heard;
                }
            }
            return found;
        }
    }

    /** Reads TEXTS OF LAWS and PLANS; what was read counts only if there was no FAULT. */
    private static final class Reader {
        private static final int MOST_DIGITS = 3;

        /** The text as ints; those from count on are of former texts. */
        private final int[] signs = new int[MOST_ELEMENTS];
        private int count = 0;
        private int at = 0;
        private int number = 0;
        int faultFound = NONE;
        int lawsTold = 0;
        final int[] lawsRead = new int[LAWS];
        final Plan planRead = new Plan();

        boolean readLaws(Shelf text, int[] lawsNow) {
            begin(text);
            System.arraycopy(lawsNow, 0, lawsRead, 0, LAWS);
            lawsTold = 0;
            boolean more = true;
            for (int i = 0; i < MOST_ELEMENTS && more; i++) {
                more = readLaw() && goesOn();
            }
            return faultFound == NONE;
        }

        boolean readPlan(Shelf text, int sourceCount) {
            begin(text);
            planRead.count = 0;
            boolean more = true;
            for (int i = 0; i < MOST_ITEMS && more; i++) {
                more = readItem(sourceCount) && goesOn();
            }
            if (more) {
                failAt(at - 1);
            }
            return faultFound == NONE;
        }

        private void begin(Shelf text) {
            count = text.count();
            for (int i = 0; i < count; i++) {
                signs[i] = text.intAt(i);
            }
            at = 0;
            faultFound = NONE;
        }

        private boolean failAt(int i) {
            faultFound = i;
            return false;
        }

        private boolean isNext(char sign) {
            return at < count && signs[at] == sign;
        }

        private boolean take(char sign) {
            if (!isNext(sign)) {
                return failAt(at);
            }
            at++;
            return true;
        }

        private boolean takeAll(String signs) {
            for (int i = 0; i < signs.length(); i++) {
                if (!take(signs.charAt(i))) {
                    return false;
                }
            }
            return true;
        }

        /** Whether a ; and so another part comes; at the end of the text none does, without a FAULT. */
        private boolean goesOn() {
            return at < count && take(';');
        }

        private boolean isDigitNext() {
            return at < count && signs[at] >= '0' && signs[at] <= '9';
        }

        private boolean readNumber(int least, int most) {
            int first = at;
            number = 0;
            while (at < first + MOST_DIGITS && isDigitNext()) {
                number = number * 10 + signs[at] - '0';
                at++;
            }
            return (at > first && isWithin(number, least, most)) || failAt(first);
        }

        // ---- laws ----

        private boolean readLaw() {
            for (int which = 0; which < LAWS; which++) {
                if (isNext(lawName(which).charAt(0))) {
                    return readLawOf(which);
                }
            }
            return failAt(at);
        }

        private boolean readLawOf(int which) {
            if (!takeAll(lawName(which)) || !readNumber(LEAST_LAWS[which], MOST_LAWS[which])) {
                return false;
            }
            lawsRead[which] = number;
            lawsTold++;
            return true;
        }

        /** With the blank behind it. No two begin alike, so that the first sign tells which it is. */
        private static String lawName(int which) {
            switch (which) {
                case LAW_LOSS:
                    return "loss ";
                case LAW_GAIN:
                    return "gain ";
                case LAW_RIGHT:
                    return "right ";
                case LAW_WRONG:
                    return "wrong ";
                case LAW_SPAN:
                    return "span ";
                default:
                    return "paper ";
            }
        }

        // ---- plans ----

        private boolean readItem(int sourceCount) {
            if (!take('o')) {
                return false;
            }
            boolean off = !isNext('n');
            if (!takeAll(off ? "ff " : "n ") || !readNumber(0, sourceCount - 1)) {
                return false;
            }
            int source = number;
            if (!takeAll(" from ") || !readNumber(0, HOURS - 1)) {
                return false;
            }
            int from = number;
            if (!takeAll(" to ") || !readNumber(from, HOURS - 1)) {
                return false;
            }
            int till = number;
            boolean comesAgain = isNext(' ');
            if (comesAgain && !(takeAll(" each ") && readNumber(1, MOST_OF_TWO_DIGITS))) {
                return false;
            }
            planRead.add(off, source, from, till, comesAgain ? number : 0);
            return true;
        }
    }

    /** Runs the bodies of an act(), written out as far as KINDS stand above each other. */
    private static final class Acts {
        private static final int SOUNDS = 0;
        private static final int REACHES = 1;
        private static final int HEARS = 2;

        private final int[] bodies = new int[TRACE_KEPT];
        private int m = 0;
        private int k = 0;
        private int kind = KIND_HUM;
        int ran = 0;

        void forget() {
            ran = 0;
        }

        int bodyAt(int i) {
            return i >= 0 && i < ran && i < TRACE_KEPT ? bodies[i] : NONE;
        }

        int run(int number, Source its, int act, int x) {
            m = number;
            k = its.tone;
            kind = its.kind;
            switch (act) {
                case SOUNDS:
                    return soundsWith(x);
                case REACHES:
                    return reachesWith(x);
                case HEARS:
                    return hearsWith(x);
                default:
                    return 0;
            }
        }

        private void begin(int body) {
            if (ran < TRACE_KEPT) {
                bodies[ran] = body;
            }
            ran++;
        }

        private int soundsWith(int x) {
            switch (kind) {
                case KIND_FAN:
                    begin(20);
                    begin(10);
                    return (x + m) * 3;
                case KIND_MIXED:
                    begin(80);
                    begin(20);
                    begin(10);
                    return (x - 1 + m) * 3;
                case KIND_TOLD:
                    begin(60);
                    begin(10);
                    return (x + m) ^ 5;
                default:
                    begin(10);
                    return x + m;
            }
        }

        private int reachesWith(int x) {
            switch (kind) {
                case KIND_GROUND:
                    begin(30);
                    return reachesOfHum(x) + k;
                case KIND_ROOM:
                    begin(40);
                    return reachesOfHum(x + 1);
                case KIND_MIXED:
                    begin(81);
                    return reachesOfHum(x) + 9;
                default:
                    return reachesOfHum(x);
            }
        }

        private int reachesOfHum(int x) {
            begin(11);
            return soundsWith(x) * 2;
        }

        private int hearsWith(int x) {
            switch (kind) {
                case KIND_ROOM:
                    begin(41);
                    return -hearsOfHum(x);
                case KIND_EAR:
                    begin(50);
                    return hearsOfHum(x) - m;
                case KIND_FAR:
                    begin(70);
                    return hearsOfHum(x) * 2;
                default:
                    return hearsOfHum(x);
            }
        }

        private int hearsOfHum(int x) {
            begin(12);
            int reached = reachesWith(x);
            return reached ^ soundsWith(x - k);
        }
    }
}
