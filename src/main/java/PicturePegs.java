/**
 * A school of picture pegs: people of kinds, each of a peg, who go round a town of twelve places,
 * lean by the hour, and get to know each other. The document's numbered promises say what each
 * call answers.
 *
 * <p>Every row is made once, with the object, and used again by each call: a call makes nothing.
 */
public final class PicturePegs {
    public static final int BAD = -1, FULL = -2, NONE = -3;

    private static final int NOTHING_THERE = -11, OUTSIDE = -12, OTHER_SORT = -13;
    private static final int SIZE_BELOW_0 = -14, PARTED_BY_0 = -15;
    private static final int NO_SUCH_ROW = -999, FAULT_BASE = -100, AMOUNT_BASE = 1000;

    private static final int BELL = 0, PULL = 1, ROOM = 2, CHANCE = 3, LAWS = 4;
    private static final int[] LAW_AT_FIRST = {4, 1, 2, 20};
    private static final int[] LAW_MOST = {9, 9, 9, 99};

    private static final int DUCK = 0, BLANK_PEG = 5, PEGS = 6;
    private static final int WEIGHT_AT_FIRST = 30, WEIGHT_MOST = 99, AGE_MOST = 99;
    private static final int PLACES = 12, PEOPLE_MOST = 8, RESTS = 10;

    private static final int PUPIL = 0, BISHOP = 1, BURGLAR = 2, DEAN = 3, CRACKER = 4, TWIN = 5;
    private static final int KINDS = 6, NO_KIND = -1;
    private static final int[] KIND_ABOVE = {NO_KIND, PUPIL, PUPIL, BISHOP, BURGLAR, PUPIL};

    private static final int HOURS_MOST = 60, CHOICE_HOURS_MOST = 20, FOUND_MOST = 30;
    private static final int HOUR_ASKED_MOST = 9999, YEARS_MOST = 8, HOPE_YEARS_MOST = 99;

    private static final int TRAIT_KIND = 0, TRAIT_PEG = 1, TRAIT_PLACE = 2;

    private static final int SHEETS = 4, SHELVES = 4, ITEMS_MOST = 40;
    private static final int BYTES = 0, SHORTS = 1, SORT_MOST = 3, MISSING = -1, FIRST_ROW_TAKEN = 10;
    private static final int HELD_PERSON = 0, HELD_ROW = 1, HELD_NOTHING = 2;

    private final Town now = new Town();
    private final Town tried = new Town();
    private final Town kept = new Town();
    private boolean somethingKept = false;
    private final Tape tape = new Tape();
    private final Rows rows = new Rows();
    private final Acts acts = new Acts();
    private final Sheet[] sheets = new Sheet[SHEETS];
    private final Shelf[] shelves = new Shelf[SHELVES];
    private final int[] restsApart = new int[PEOPLE_MOST * PEOPLE_MOST];

    public PicturePegs() {
        for (int i = 0; i < SHEETS; i++) {
            sheets[i] = new Sheet();
        }
        for (int i = 0; i < SHELVES; i++) {
            shelves[i] = new Shelf();
        }
    }

    // ---- the school told in a text ----

    public int feed(long eight, int n) {
        if (!between(n, 1, 8)) {
            return BAD;
        }
        return tape.takeBytes(eight, n);
    }

    public int school() {
        tried.startAnew();
        tried.z = now.z;
        int fault = tape.tell(tried);
        tape.length = 0;
        if (fault != Tape.NO_FAULT) {
            return FAULT_BASE - fault;
        }
        now.become(tried);
        rows.count = 0;
        return now.people;
    }

    // ---- laws, pegs, people ----

    public int set(int law, int v) {
        if (!upTo(law, LAWS - 1) || !upTo(v, LAW_MOST[law])) {
            return BAD;
        }
        int was = now.laws[law];
        now.laws[law] = v;
        return was;
    }

    public int lawOf(int law) {
        return upTo(law, LAWS - 1) ? now.laws[law] : BAD;
    }

    public int person(int kind, int peg, int age, int at) {
        if (!upTo(kind, KINDS - 1) || !upTo(peg, PEGS - 1)
                || !upTo(age, AGE_MOST) || !upTo(at, PLACES - 1)) {
            return BAD;
        }
        return now.admit(kind, peg, age, at);
    }

    public int of(int person, int what) {
        if (!isPerson(person)) {
            return BAD;
        }
        switch (what) {
            case 0: return now.kinds[person];
            case 1: return now.pegs[person];
            case 2: return now.ages[person];
            case 3: return now.places[person];
            case 4: return now.knows[person];
            case 5: return now.othersBeside(person);
            default: return BAD;
        }
    }

    public int leans(int person, int hour) {
        if (!isPerson(person) || !upTo(hour, HOUR_ASKED_MOST)) {
            return BAD;
        }
        return AMOUNT_BASE + now.leanAt(person, hour);
    }

    public int strides(int person) {
        return isPerson(person) ? AMOUNT_BASE + now.strideOf(person) : BAD;
    }

    public int mind(int person, int kind, int peg) {
        if (!isPerson(person) || !upTo(kind, KINDS - 1) || !upTo(peg, PEGS - 1)) {
            return BAD;
        }
        int was = now.kinds[person];
        now.kinds[person] = kind;
        now.pegs[person] = peg;
        return was;
    }

    public int age(int person, int v) {
        if (!isPerson(person) || !upTo(v, AGE_MOST)) {
            return BAD;
        }
        int was = now.ages[person];
        now.ages[person] = v;
        return was;
    }

    public int bring(int person, int place) {
        if (!isPerson(person) || !upTo(place, PLACES - 1)) {
            return BAD;
        }
        int was = now.places[person];
        now.places[person] = place;
        return was;
    }

    public int know(int person, int other, int v) {
        if (!areTwo(person, other) || !upTo(v, 1)) {
            return BAD;
        }
        int was = now.knowEachOther(person, other) ? 1 : 0;
        if (v == 1) {
            now.acquaint(person, other);
        } else {
            now.estrange(person, other);
        }
        return was;
    }

    public int weigh(int peg, int v) {
        if (!upTo(peg, PEGS - 1) || !upTo(v, WEIGHT_MOST)) {
            return BAD;
        }
        int was = now.weights[peg];
        now.weights[peg] = v;
        return was;
    }

    public int peg(int peg, int what) {
        if (!upTo(peg, PEGS - 1) || !upTo(what, 1)) {
            return BAD;
        }
        return what == 0 ? now.weights[peg] : now.peopleOfPeg(peg);
    }

    // ---- hours ----

    public int hours(int n) {
        if (!between(n, 1, HOURS_MOST)) {
            return BAD;
        }
        now.spendHours(n);
        return now.pairs();
    }

    public int seed(int v) {
        int was = now.z;
        now.z = v;
        return was;
    }

    public int hour() {
        now.spendHourByDraws();
        return now.pairs();
    }

    public int found(int n) {
        if (!between(n, 1, FOUND_MOST)) {
            return BAD;
        }
        tried.become(now);
        tried.spendHour();
        int without = tried.pairs();
        int z = now.z;
        int more = 0;
        for (int i = 0; i < n; i++) {
            tried.become(now);
            tried.z = z;
            tried.spendHourByDraws();
            z = tried.z;
            if (tried.pairs() > without) {
                more++;
            }
        }
        return more;
    }

    public int state(int what) {
        switch (what) {
            case 0: return now.hour;
            case 1: return now.pairs();
            case 2: return now.strangers();
            case 3: return now.placesTaken();
            case 4: return now.circles();
            case 5: return now.wholeWeight();
            default: return BAD;
        }
    }

    // ---- what is tried ----

    public int ahead(int person, int n, int what) {
        if (!isPerson(person) || !upTo(n, HOURS_MOST) || !upTo(what, 1)) {
            return BAD;
        }
        tried.become(now);
        tried.spendHours(n);
        return what == 0 ? tried.places[person] : tried.knows[person];
    }

    public int meet(int person, int other) {
        if (!areTwo(person, other)) {
            return BAD;
        }
        tried.become(now);
        for (int n = 0; n <= HOURS_MOST; n++) {
            if (tried.knowEachOther(person, other)) {
                return n;
            }
            tried.spendHour();
        }
        return NONE;
    }

    public int gather() {
        tried.become(now);
        for (int n = 0; n <= HOURS_MOST; n++) {
            if (Integer.bitCount(tried.placesTaken()) <= 1) {
                return n;
            }
            tried.spendHour();
        }
        return NONE;
    }

    public int alone(int person) {
        if (!isPerson(person)) {
            return BAD;
        }
        tried.become(now);
        for (int n = 0; n <= HOURS_MOST; n++) {
            if (tried.othersBeside(person) == 0) {
                return n;
            }
            tried.spendHour();
        }
        return NONE;
    }

    public int pegFor(int person, int n) {
        return choiceFor(person, n, TRAIT_PEG, PEGS);
    }

    public int kindFor(int person, int n) {
        return choiceFor(person, n, TRAIT_KIND, KINDS);
    }

    public int placeFor(int person, int n) {
        return choiceFor(person, n, TRAIT_PLACE, PLACES);
    }

    public int circle(int person) {
        return isPerson(person) ? now.circleOf(person) : BAD;
    }

    public int apart() {
        int twos = listRestsApart();
        for (int i = 0; i < twos; i++) {
            if (restsApart[i] == 0) {
                return NONE;
            }
        }
        for (int size = 0; size <= RESTS; size++) {
            for (int rests = 0; rests < 1 << RESTS; rests++) {
                if (Integer.bitCount(rests) == size && tellsApart(rests, twos)) {
                    return rests;
                }
            }
        }
        return NONE;
    }

    public int fits(int sheet, int person, int what) {
        if (!isSheet(sheet) || !isPerson(person) || !upTo(what, 1)) {
            return BAD;
        }
        Sheet told = sheets[sheet];
        if (told.sort == MISSING) {
            return NOTHING_THERE;
        }
        int fitting = 0;
        int least = NONE;
        for (int peg = PEGS - 1; peg >= 0; peg--) {
            if (knowsAsTold(person, peg, told)) {
                fitting++;
                least = peg;
            }
        }
        return what == 0 ? fitting : least;
    }

    // ---- odds of chance ----

    public long odds(int n, int k, int part) {
        if (!upTo(n, YEARS_MOST) || !upTo(k, n) || !upTo(part, 1)) {
            return BAD;
        }
        long chance = now.laws[CHANCE];
        long above = ways(n, k) * power(chance, k) * power(100 - chance, n - k);
        return partOfFraction(above, power(100, n), part);
    }

    public long hope(int n, int part) {
        if (!upTo(n, HOPE_YEARS_MOST) || !upTo(part, 1)) {
            return BAD;
        }
        return partOfFraction((long) n * now.laws[CHANCE], 100, part);
    }

    // ---- rows of hours ----

    public int prove(int person, int n) {
        if (!isPerson(person) || !between(n, 1, Rows.MOST)) {
            return BAD;
        }
        tried.become(now);
        for (int i = 0; i < n; i++) {
            int leant = tried.leanAt(person, tried.hour);
            tried.spendHour();
            rows.write(i, tried.places[person], tried.knows[person], leant);
        }
        rows.count = n;
        return n;
    }

    public int row(int i, int what) {
        return rows.has(i, what) ? rows.cells[i][what] : NO_SUCH_ROW;
    }

    public int alterRow(int i, int what, int v) {
        if (!rows.has(i, what)) {
            return NO_SUCH_ROW;
        }
        int was = rows.cells[i][what];
        rows.cells[i][what] = v;
        return was;
    }

    public int judge(int person) {
        if (!isPerson(person)) {
            return BAD;
        }
        tried.become(now);
        for (int i = 0; i < rows.count; i++) {
            int leant = tried.leanAt(person, tried.hour);
            tried.spendHour();
            if (!rows.reads(i, tried.places[person], tried.knows[person], leant)) {
                return i + 1;
            }
        }
        return 0;
    }

    // ---- sheets ----

    public int minds(int sheet, int i, int person, int n) {
        if (!isSheet(sheet) || !isPerson(person) || !upTo(n, PEOPLE_MOST)
                || person + n > now.people) {
            return BAD;
        }
        Sheet from = sheets[sheet];
        if (from.sort == MISSING) {
            return NOTHING_THERE;
        }
        if (from.sort != BYTES) {
            return OTHER_SORT;
        }
        if (!upTo(i, from.count) || i + n > from.count) {
            return OUTSIDE;
        }
        for (int j = 0; j < n; j++) {
            now.ages[person + j] = Math.max(0, Math.min(AGE_MOST, from.items[i + j]));
        }
        return n;
    }

    public int sheet(int sheet, int sort, int n) {
        if (!isSheet(sheet) || !between(sort, MISSING, SORT_MOST)) {
            return BAD;
        }
        if (sort == MISSING) {
            sheets[sheet].lose();
            return 1;
        }
        if (n > ITEMS_MOST) {
            return BAD;
        }
        if (n < 0) {
            return SIZE_BELOW_0;
        }
        sheets[sheet].begin(sort, n);
        return 1;
    }

    public int put(int sheet, int i, int v) {
        if (!isSheet(sheet)) {
            return BAD;
        }
        Sheet to = sheets[sheet];
        if (to.sort == MISSING) {
            return NOTHING_THERE;
        }
        if (!to.has(i)) {
            return OUTSIDE;
        }
        to.items[i] = to.narrowed(v);
        return 1;
    }

    public int item(int sheet, int sort, int i) {
        if (!isSheet(sheet) || !upTo(sort, SORT_MOST)) {
            return BAD;
        }
        Sheet from = sheets[sheet];
        if (from.sort == MISSING) {
            return NOTHING_THERE;
        }
        if (from.sort != sort) {
            return OTHER_SORT;
        }
        return from.has(i) ? from.items[i] : OUTSIDE;
    }

    // ---- shelves, acts, the trace ----

    public int shelf(int shelf, int what, int n) {
        if (!isShelf(shelf)) {
            return BAD;
        }
        Shelf on = shelves[shelf];
        switch (what) {
            case HELD_PERSON:
                if (!isPerson(n)) {
                    return BAD;
                }
                on.holdPerson(n);
                return 1;
            case HELD_ROW:
                if (!isSheet(n)) {
                    return BAD;
                }
                on.holdRow(sheets[n]);
                return 1;
            case HELD_NOTHING:
                on.holds = HELD_NOTHING;
                return 1;
            default:
                return BAD;
        }
    }

    public int taken(int shelf, int as) {
        boolean asKind = upTo(as, KINDS - 1);
        boolean asRow = between(as, FIRST_ROW_TAKEN, FIRST_ROW_TAKEN + SORT_MOST);
        if (!isShelf(shelf) || !asKind && !asRow) {
            return BAD;
        }
        Shelf on = shelves[shelf];
        if (on.holds == HELD_ROW) {
            return on.sort == as - FIRST_ROW_TAKEN ? on.items : OTHER_SORT;
        }
        if (!holdsSomebody(on)) {
            return NOTHING_THERE;
        }
        return asKind && isUnder(now.kinds[on.number], as) ? on.number : OTHER_SORT;
    }

    public int act(int shelf, int act, int x) {
        acts.ran = 0;
        if (!isShelf(shelf) || !upTo(act, Acts.ACTS - 1) || !holdsSomebody(shelves[shelf])) {
            return 0;
        }
        int number = shelves[shelf].number;
        acts.become(now.kinds[number], number, now.pegs[number]);
        return acts.perform(act, x);
    }

    public int trace(int i) {
        return i >= 0 && i < acts.ran ? acts.bodies[i] : NONE;
    }

    public int many(int what) {
        switch (what) {
            case 0: return now.people;
            case 1: return now.people - Integer.bitCount(now.strangers());
            case 2: return Integer.bitCount(now.pegsHad());
            case 3: return Integer.bitCount(now.placesTaken());
            case 4: return rows.count;
            case 5: return tape.length;
            case 6: return acts.ran;
            default: return BAD;
        }
    }

    // ---- schools kept ----

    public int keep() {
        kept.become(now);
        somethingKept = true;
        return 1;
    }

    public int again() {
        if (!somethingKept) {
            return NONE;
        }
        now.become(kept);
        return now.people;
    }

    // ---- what the calls share ----

    private static boolean upTo(int v, int most) {
        return v >= 0 && v <= most;
    }

    private static boolean between(int v, int least, int most) {
        return v >= least && v <= most;
    }

    private boolean isPerson(int person) {
        return person >= 0 && person < now.people;
    }

    private boolean areTwo(int person, int other) {
        return isPerson(person) && isPerson(other) && person != other;
    }

    private static boolean isSheet(int sheet) {
        return upTo(sheet, SHEETS - 1);
    }

    private static boolean isShelf(int shelf) {
        return upTo(shelf, SHELVES - 1);
    }

    // A shelf holds a person by its number alone, and a later school may have nobody of that number.
    private boolean holdsSomebody(Shelf on) {
        return on.holds == HELD_PERSON && isPerson(on.number);
    }

    private static boolean isUnder(int kind, int above) {
        int climbed = kind;
        for (int step = 0; step < KINDS && upTo(climbed, KINDS - 1); step++) {
            if (climbed == above) {
                return true;
            }
            climbed = KIND_ABOVE[climbed];
        }
        return false;
    }

    private int choiceFor(int person, int n, int trait, int choices) {
        if (!isPerson(person) || !between(n, 1, CHOICE_HOURS_MOST)) {
            return BAD;
        }
        int best = 0;
        int most = -1;
        for (int choice = 0; choice < choices; choice++) {
            tried.become(now);
            tried.alter(person, trait, choice);
            tried.spendHours(n);
            int known = tried.knownBy(person);
            if (known > most) {
                most = known;
                best = choice;
            }
        }
        return best;
    }

    private boolean knowsAsTold(int person, int peg, Sheet told) {
        tried.become(now);
        tried.alter(person, TRAIT_PEG, peg);
        for (int i = 0; i < told.count; i++) {
            tried.spendHour();
            int number = told.items[i];
            if (number != -1 && number != tried.knownBy(person)) {
                return false;
            }
        }
        return true;
    }

    // One set of rests for each two people: those at which they lean otherwise.
    private int listRestsApart() {
        int twos = 0;
        for (int one = 0; one < now.people; one++) {
            for (int other = one + 1; other < now.people; other++) {
                restsApart[twos] = now.restsOfDifference(one, other);
                twos++;
            }
        }
        return twos;
    }

    private boolean tellsApart(int rests, int twos) {
        for (int i = 0; i < twos; i++) {
            if ((restsApart[i] & rests) == 0) {
                return false;
            }
        }
        return true;
    }

    private static long ways(int n, int k) {
        long ways = 1;
        for (int i = 0; i < k; i++) {
            ways = ways * (n - i) / (i + 1);
        }
        return ways;
    }

    private static long power(long base, int times) {
        long product = 1;
        for (int i = 0; i < times; i++) {
            product *= base;
        }
        return product;
    }

    private static long partOfFraction(long above, long below, int part) {
        long common = Math.max(1, commonDivisor(above, below));
        return (part == 0 ? above : below) / common;
    }

    // Euclid's steps for two longs are fewer than a hundred.
    private static long commonDivisor(long one, long other) {
        long a = one;
        long b = other;
        for (int step = 0; step < 100 && b != 0; step++) {
            long rest = a % b;
            a = b;
            b = rest;
        }
        return a;
    }

    /** Laws, pegs, people and the hour: all that an hour changes, and all that is kept. */
    private static final class Town {
        final int[] laws = new int[LAWS];
        final int[] weights = new int[PEGS];
        final int[] kinds = new int[PEOPLE_MOST];
        final int[] pegs = new int[PEOPLE_MOST];
        final int[] ages = new int[PEOPLE_MOST];
        final int[] places = new int[PEOPLE_MOST];
        final int[] knows = new int[PEOPLE_MOST];
        final int[] leaning = new int[PEOPLE_MOST];
        int people = 0;
        int hour = 0;
        int z = 1;

        Town() {
            startAnew();
        }

        // z is left as it is: a school told in a text does not touch it.
        void startAnew() {
            for (int law = 0; law < LAWS; law++) {
                laws[law] = LAW_AT_FIRST[law];
            }
            for (int peg = 0; peg < PEGS; peg++) {
                weights[peg] = peg == BLANK_PEG ? 0 : WEIGHT_AT_FIRST;
            }
            people = 0;
            hour = 0;
        }

        void become(Town other) {
            System.arraycopy(other.laws, 0, laws, 0, LAWS);
            System.arraycopy(other.weights, 0, weights, 0, PEGS);
            System.arraycopy(other.kinds, 0, kinds, 0, PEOPLE_MOST);
            System.arraycopy(other.pegs, 0, pegs, 0, PEOPLE_MOST);
            System.arraycopy(other.ages, 0, ages, 0, PEOPLE_MOST);
            System.arraycopy(other.places, 0, places, 0, PEOPLE_MOST);
            System.arraycopy(other.knows, 0, knows, 0, PEOPLE_MOST);
            people = other.people;
            hour = other.hour;
            z = other.z;
        }

        int admit(int kind, int peg, int age, int place) {
            if (people >= PEOPLE_MOST) {
                return FULL;
            }
            int number = people;
            kinds[number] = kind;
            pegs[number] = peg;
            ages[number] = age;
            places[number] = place;
            knows[number] = 0;
            people++;
            return number;
        }

        void alter(int person, int trait, int v) {
            switch (trait) {
                case TRAIT_KIND:
                    kinds[person] = v;
                    break;
                case TRAIT_PEG:
                    pegs[person] = v;
                    break;
                default:
                    places[person] = v;
                    break;
            }
        }

        int leanAt(int person, int atHour) {
            int tenth = weights[pegs[person]] / 10;
            int asPupil = atHour % RESTS == laws[BELL] ? tenth : 0;
            switch (kinds[person]) {
                case BISHOP: return asPupil + 1;
                case DEAN: return (asPupil + 1) * 2;
                case BURGLAR: return asPupil - 1;
                case CRACKER: return asPupil - 1 + ages[person] / 10;
                case TWIN: return tenth;
                default: return asPupil;
            }
        }

        int strideOf(int person) {
            int asPupil = 1;
            switch (kinds[person]) {
                case BISHOP: return asPupil + 1;
                case DEAN: return asPupil + 1 - 3;
                case BURGLAR: return asPupil + laws[PULL];
                case CRACKER: return (asPupil + laws[PULL]) * 2;
                case TWIN: return 0;
                default: return asPupil;
            }
        }

        void spendHours(int n) {
            for (int i = 0; i < n; i++) {
                spendHour();
            }
        }

        void spendHour() {
            for (int person = 0; person < people; person++) {
                places[person] = Math.floorMod(places[person] + strideOf(person), PLACES);
                leaning[person] = leanAt(person, hour);
            }
            for (int one = 0; one < people; one++) {
                for (int other = one + 1; other < people; other++) {
                    if (findEachOther(one, other)) {
                        acquaint(one, other);
                    }
                }
            }
            hour++;
        }

        private boolean findEachOther(int one, int other) {
            return places[one] == places[other]
                    && areAlike(one, other)
                    && leaning[one] != 0
                    && leaning[other] != 0
                    && Math.abs(leaning[one] - leaning[other]) <= laws[ROOM];
        }

        private boolean areAlike(int one, int other) {
            return pegs[one] == pegs[other] || pegs[one] == BLANK_PEG || pegs[other] == BLANK_PEG;
        }

        private int draw() {
            z = z * 1103515245 + 12345;
            return z >>> 16;
        }

        void spendHourByDraws() {
            if (people > 0) {
                int chosen = draw() % people;
                if (draw() % 100 < laws[CHANCE]) {
                    places[chosen] = draw() % PLACES;
                }
            }
            spendHour();
        }

        boolean knowEachOther(int one, int other) {
            return (knows[one] >> other & 1) == 1;
        }

        void acquaint(int one, int other) {
            knows[one] |= 1 << other;
            knows[other] |= 1 << one;
        }

        void estrange(int one, int other) {
            knows[one] &= ~(1 << other);
            knows[other] &= ~(1 << one);
        }

        int knownBy(int person) {
            return Integer.bitCount(knows[person]);
        }

        int pairs() {
            int ends = 0;
            for (int person = 0; person < people; person++) {
                ends += knownBy(person);
            }
            return ends / 2;
        }

        int strangers() {
            int set = 0;
            for (int person = 0; person < people; person++) {
                if (knows[person] == 0) {
                    set |= 1 << person;
                }
            }
            return set;
        }

        int placesTaken() {
            int set = 0;
            for (int person = 0; person < people; person++) {
                set |= 1 << places[person];
            }
            return set;
        }

        int pegsHad() {
            int set = 0;
            for (int person = 0; person < people; person++) {
                set |= 1 << pegs[person];
            }
            return set;
        }

        int peopleOfPeg(int peg) {
            int set = 0;
            for (int person = 0; person < people; person++) {
                if (pegs[person] == peg) {
                    set |= 1 << person;
                }
            }
            return set;
        }

        int othersBeside(int person) {
            int others = 0;
            for (int other = 0; other < people; other++) {
                if (other != person && places[other] == places[person]) {
                    others++;
                }
            }
            return others;
        }

        // Each round takes in at least one more, or changes nothing any more.
        int circleOf(int person) {
            int set = 1 << person;
            for (int round = 0; round < people; round++) {
                for (int member = 0; member < people; member++) {
                    if ((set >> member & 1) == 1) {
                        set |= knows[member];
                    }
                }
            }
            return set;
        }

        // A circle is counted at its least member.
        int circles() {
            int count = 0;
            for (int person = 0; person < people; person++) {
                int lesserMembers = circleOf(person) & (1 << person) - 1;
                if (lesserMembers == 0) {
                    count++;
                }
            }
            return count;
        }

        int wholeWeight() {
            int whole = 0;
            for (int peg = 0; peg < PEGS; peg++) {
                whole += weights[peg];
            }
            return whole;
        }

        int restsOfDifference(int one, int other) {
            int set = 0;
            for (int rest = 0; rest < RESTS; rest++) {
                if (leanAt(one, rest) != leanAt(other, rest)) {
                    set |= 1 << rest;
                }
            }
            return set;
        }
    }

    /** The tape's bytes, and the reading of them as a text, one token at a time. */
    private static final class Tape {
        static final int NO_FAULT = -1;
        private static final int MOST = 200, DIGITS_MOST = 3;
        private static final int END = 0, NAME = 1, NUMBER = 2, SIGN = 3;
        private static final int SPACE = 32, SEMICOLON = 59;
        private static final int NOT_AS_TOLD = -1;

        // Each name is filled up to the longest one's length, so that its number gives its place.
        private static final int NAME_LENGTH = 7, NAMES = 20;
        private static final String ALL_NAMES =
                "pupil  bishop burglardean   crackertwin   duck   drum   pear   kite   ladder blank  bell   pull   room   chance at     age    had    weighs ";
        private static final int FIRST_KIND = 0, FIRST_PEG = 6, FIRST_LAW = 12;
        private static final int AT = 16, AGE = 17, HAD = 18, WEIGHS = 19;

        private final byte[] bytes = new byte[MOST];
        int length = 0;
        private int next = 0;
        private int start = 0;
        private int sort = END;
        private int value = 0;
        private int number = 0;

        int takeBytes(long eight, int n) {
            if (length + n > MOST) {
                return FULL;
            }
            for (int i = 0; i < n; i++) {
                bytes[length + i] = (byte) (eight >>> 8 * i);
            }
            length += n;
            return length;
        }

        // A sentence takes at least one byte, so there are no more of them than bytes. Where a
        // reader below answers false, the token at fault is still the current one.
        int tell(Town town) {
            boolean asTold = true;
            next = 0;
            advance();
            for (int i = 0; i < MOST && asTold && sort != END; i++) {
                if (isNameFrom(FIRST_KIND, KINDS)) {
                    asTold = tellPerson(town, value - FIRST_KIND);
                } else if (isNameFrom(FIRST_PEG, PEGS)) {
                    asTold = tellWeight(town, value - FIRST_PEG);
                } else if (isNameFrom(FIRST_LAW, LAWS)) {
                    asTold = tellLaw(town, value - FIRST_LAW);
                } else {
                    asTold = false;
                }
            }
            return asTold ? NO_FAULT : start;
        }

        private boolean tellPerson(Town town, int kind) {
            if (town.people >= PEOPLE_MOST) {
                return false;
            }
            advance();
            if (!passName(AT) || !passNumber(PLACES - 1)) {
                return false;
            }
            int place = number;
            int age = 0;
            if (passName(AGE)) {
                if (!passNumber(AGE_MOST)) {
                    return false;
                }
                age = number;
            }
            int peg = DUCK;
            if (passName(HAD)) {
                if (!isNameFrom(FIRST_PEG, PEGS)) {
                    return false;
                }
                peg = value - FIRST_PEG;
                advance();
            }
            if (!passSemicolon()) {
                return false;
            }
            town.admit(kind, peg, age, place);
            return true;
        }

        private boolean tellWeight(Town town, int peg) {
            advance();
            if (!passName(WEIGHS) || !passNumber(WEIGHT_MOST) || !passSemicolon()) {
                return false;
            }
            town.weights[peg] = number;
            return true;
        }

        private boolean tellLaw(Town town, int law) {
            advance();
            if (!passNumber(LAW_MOST[law]) || !passSemicolon()) {
                return false;
            }
            town.laws[law] = number;
            return true;
        }

        private boolean isNameFrom(int first, int count) {
            return sort == NAME && value >= first && value < first + count;
        }

        private boolean passName(int name) {
            if (!isNameFrom(name, 1)) {
                return false;
            }
            advance();
            return true;
        }

        private boolean passNumber(int most) {
            if (sort != NUMBER || value == NOT_AS_TOLD || value > most) {
                return false;
            }
            number = value;
            advance();
            return true;
        }

        private boolean passSemicolon() {
            if (sort != SIGN || value != SEMICOLON) {
                return false;
            }
            advance();
            return true;
        }

        private void advance() {
            while (next < length && bytes[next] == SPACE) {
                next++;
            }
            start = next;
            if (next >= length) {
                sort = END;
            } else if (isLetter(bytes[next])) {
                scanName();
            } else if (isDigit(bytes[next])) {
                scanNumber();
            } else {
                sort = SIGN;
                value = bytes[next];
                next++;
            }
        }

        private void scanName() {
            while (next < length && isLetter(bytes[next])) {
                next++;
            }
            sort = NAME;
            value = NOT_AS_TOLD;
            for (int name = 0; name < NAMES; name++) {
                if (isSpelt(name)) {
                    value = name;
                }
            }
        }

        private boolean isSpelt(int name) {
            if (next - start > NAME_LENGTH) {
                return false;
            }
            for (int i = 0; i < NAME_LENGTH; i++) {
                int read = start + i < next ? bytes[start + i] : SPACE;
                if (ALL_NAMES.charAt(name * NAME_LENGTH + i) != read) {
                    return false;
                }
            }
            return true;
        }

        private void scanNumber() {
            int read = 0;
            while (next < length && isDigit(bytes[next])) {
                if (next - start < DIGITS_MOST) {
                    read = read * 10 + bytes[next] - '0';
                }
                next++;
            }
            sort = NUMBER;
            value = next - start > DIGITS_MOST ? NOT_AS_TOLD : read;
        }

        private static boolean isLetter(int sign) {
            return sign >= 'a' && sign <= 'z';
        }

        private static boolean isDigit(int sign) {
            return sign >= '0' && sign <= '9';
        }
    }

    /** The rows of one person's hours: a place, a set of those it knows, an amount leant. */
    private static final class Rows {
        static final int MOST = 10;
        private static final int CELLS = 3;

        final int[][] cells = new int[MOST][CELLS];
        int count = 0;

        boolean has(int i, int what) {
            return i >= 0 && i < count && upTo(what, CELLS - 1);
        }

        void write(int i, int place, int known, int leant) {
            cells[i][0] = place;
            cells[i][1] = known;
            cells[i][2] = leant;
        }

        boolean reads(int i, int place, int known, int leant) {
            return cells[i][0] == place && cells[i][1] == known && cells[i][2] == leant;
        }
    }

    /** A row of numbers of one sort, or missing. Longs fit too: they only ever come from ints. */
    private static final class Sheet {
        final int[] items = new int[ITEMS_MOST];
        int sort = MISSING;
        int count = 0;

        void lose() {
            sort = MISSING;
            count = 0;
        }

        void begin(int newSort, int n) {
            sort = newSort;
            count = n;
            for (int i = 0; i < ITEMS_MOST; i++) {
                items[i] = 0;
            }
        }

        boolean has(int i) {
            return i >= 0 && i < count;
        }

        int narrowed(int v) {
            switch (sort) {
                case BYTES: return (byte) v;
                case SHORTS: return (short) v;
                default: return v;
            }
        }
    }

    /**
     * What a shelf holds. Of a row only its sort and length can be asked for, and these never
     * change, so they stand for it, also when the sheet has got another row meanwhile.
     */
    private static final class Shelf {
        int holds = HELD_NOTHING;
        int number = 0;
        int sort = MISSING;
        int items = 0;

        void holdPerson(int person) {
            holds = HELD_PERSON;
            number = person;
        }

        void holdRow(Sheet from) {
            holds = from.sort == MISSING ? HELD_NOTHING : HELD_ROW;
            sort = from.sort;
            items = from.count;
        }
    }

    /** The acts of one thing of a kind, and the trace of the bodies that ran. */
    private static final class Acts {
        static final int ACTS = 4;
        private static final int HOOKS = 0, LEANS = 1, PARTS = 2;
        private static final int TRACE_MOST = 30, DEEPEST = 40;

        // For each kind the bodies of hooks, leans, parts and calls, its own or from above.
        private static final int[] BODY_OF = {
            10, 11, 12, 13,
            10, 20, 12, 13,
            30, 11, 12, 31,
            51, 20, 50, 13,
            40, 41, 12, 31,
            10, 11, 61, 60,
        };

        final int[] bodies = new int[TRACE_MOST];
        int ran = 0;
        private int kind = PUPIL;
        private int number = 0;
        private int peg = DUCK;
        private boolean parted = false;

        void become(int newKind, int newNumber, int newPeg) {
            kind = newKind;
            number = newNumber;
            peg = newPeg;
        }

        int perform(int act, int x) {
            ran = 0;
            parted = false;
            int answer = own(act, x, 0);
            return parted ? PARTED_BY_0 : answer;
        }

        private int own(int act, int x, int depth) {
            return run(BODY_OF[kind * ACTS + act], x, depth);
        }

        // No body begins any more once something was parted by 0.
        private int run(int body, int x, int depth) {
            if (parted || depth > DEEPEST) {
                return 0;
            }
            note(body);
            int below = depth + 1;
            switch (body) {
                case 10: return x * 7 - number;
                case 11: return own(HOOKS, x, below) + peg;
                case 12: return quotient(x, peg - number);
                case 13: return own(LEANS, x, below) ^ 50;
                case 20: return run(11, x, below) - 3;
                case 30: return 0 - run(10, x, below);
                case 31: return run(13, x, below) - own(PARTS, number, below);
                case 40: return run(30, x, below) ^ 8;
                case 41: return run(11, x, below) + own(HOOKS, peg, below);
                case 50: return run(12, x - number, below) * 3;
                case 51: return run(10, x, below) + 1;
                case 60: return run(13, x, below) * 2;
                case 61: return run(12, x, below) - own(HOOKS, number, below);
                default: return 0;
            }
        }

        private void note(int body) {
            if (ran < TRACE_MOST) {
                bodies[ran] = body;
                ran++;
            }
        }

        private int quotient(int x, int by) {
            if (by == 0) {
                parted = true;
                return 0;
            }
            return x / by;
        }
    }
}
