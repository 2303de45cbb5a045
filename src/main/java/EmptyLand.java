/**
 * A land that empties: villages, the things that serve them, the years that go by,
 * and what lies ahead. ../shared/DOC.md says what each call answers.
 */
public final class EmptyLand {
    private static final int LOW = -1000000000;
    private static final int BEYOND = 1;
    private static final int NONE = 2;
    private static final int STATE = 3;
    private static final int FULL = 4;
    private static final int KIND = 5;

    private static final int LAST_YEAR = 199;
    private static final int MOST_YEARS = 50;
    private static final int MOST_AHEAD = 40;
    private static final int MOST_VILLAGES = 8;
    private static final int MOST_THINGS = 10;
    private static final int MOST_PEOPLE = 99999;
    private static final int MOST_XY = 30;
    private static final int MOST_PACE = 9;
    private static final int MOST_COST = 999;
    private static final int MOST_LEAST = 9999;
    private static final int MOST_REACH = 300;
    private static final int MOST_BUDGET = 9999;
    private static final int MOST_KEPT = 6;
    private static final int MOST_EDGE = 400;
    private static final int MOST_TAPE = 50;
    private static final int MOST_OPEN_SIGNS = 5;
    private static final int MOST_ROW = 40;
    private static final int MOST_WAITING = 20;

    private static final int SORTS = 3;
    private static final int YOUNG = 0;
    private static final int GROWN = 1;
    private static final int OLD = 2;
    private static final int ALL_SORTS = 3;
    private static final int PLACE = 4;

    private static final int THING = 0;
    private static final int SCHOOL = 1;
    private static final int SHOP = 2;
    private static final int DOCTOR = 3;
    private static final int BUS = 4;
    private static final int WHEELS = 5;
    private static final int BRIDGE = 6;

    private static final int USES = 3;
    private static final int SHUT = 0;
    private static final int GO = 1;
    private static final int COME = 2;

    private static final int BORN = 0;
    private static final int AGED = 1;
    private static final int OLDER = 2;
    private static final int DIE = 3;
    private static final int INCOME = 4;
    private static final int COIN = 5;
    private static final int[] RATE_LEAST = {0, 0, 0, 0, 0, -9999999};
    private static final int[] RATE_MOST = {20, 50, 50, 50, 9999, 9999999};
    private static final int[] RATE_FIRST = {3, 6, 3, 5, 100, 0};

    private final Desk desk = new Desk();
    private final Desk kept = new Desk();
    private int images = 0;
    // Lands to try things on, made once: a call makes none of its own.
    private final Land ahead = new Land();
    private final Land path = new Land();
    private final Row[] sheets = new Row[4];
    private final Row traced = new Row(MOST_ROW);
    private final int[] errors = new int[KIND + 1];

    public EmptyLand() {
        for (int i = 0; i < sheets.length; i++) {
            sheets[i] = new Row(MOST_ROW);
        }
    }

    // ---- villages

    public int village(int place, int young, int grown, int old) {
        if (!isVillageAsTold(place, young, grown, old)) {
            return error(BEYOND);
        }
        if (desk.land.villageCount >= MOST_VILLAGES) {
            return error(FULL);
        }
        return desk.land.addVillage(place, young, grown, old);
    }

    public int people(int village, int sort) {
        if (!isVillage(village) || !within(sort, 0, PLACE)) {
            return error(BEYOND);
        }
        if (sort == PLACE) {
            return desk.land.places[village];
        }
        return desk.land.peopleOf(village, sort);
    }

    public int become(int village, int sort, int v) {
        if (!isVillage(village) || !within(sort, YOUNG, OLD) || !within(v, 0, MOST_PEOPLE)) {
            return error(BEYOND);
        }
        int was = desk.land.peopleOf(village, sort);
        desk.land.people[SORTS * village + sort] = v;
        return was;
    }

    public int villages(int sheet) {
        if (!isSheet(sheet)) {
            return error(BEYOND);
        }
        Row row = sheets[sheet];
        if (row.bits == 0) {
            return error(NONE);
        }
        int came = 0;
        for (int i = 0; i + 3 < row.size && desk.land.villageCount < MOST_VILLAGES; i += 4) {
            int[] fours = row.numbers;
            if (!isVillageAsTold(fours[i], fours[i + 1], fours[i + 2], fours[i + 3])) {
                break;
            }
            desk.land.addVillage(fours[i], fours[i + 1], fours[i + 2], fours[i + 3]);
            came++;
        }
        return came;
    }

    public int made(int n) {
        if (!within(n, 1, MOST_VILLAGES)) {
            return error(BEYOND);
        }
        if (desk.land.villageCount + n > MOST_VILLAGES) {
            return error(FULL);
        }
        for (int i = 0; i < n; i++) {
            int x = desk.draw() % (MOST_XY + 1);
            int y = desk.draw() % (MOST_XY + 1);
            int young = desk.draw() % 100;
            int grown = desk.draw() % 300;
            int old = desk.draw() % 200;
            desk.land.addVillage(100 * x + y, young, grown, old);
        }
        return desk.land.villageCount;
    }

    public int pace(int v) {
        if (!within(v, 1, MOST_PACE)) {
            return error(BEYOND);
        }
        int was = desk.land.pace;
        desk.land.pace = v;
        desk.land.survey();
        return was;
    }

    public int way(int one, int other) {
        if (!isVillage(one) || !isVillage(other)) {
            return error(BEYOND);
        }
        return desk.land.wayOf(one, other);
    }

    public int mend(int one, int other, int is) {
        if (!isVillage(one) || !isVillage(other) || one == other || !within(is, 0, 1)) {
            return error(BEYOND);
        }
        int was = desk.land.isMended(one, other) ? 1 : 0;
        desk.land.setMended(one, other, is == 1);
        return was;
    }

    // ---- things

    public int thing(int kv, int cost, int least, int reach) {
        if (kv < 0 || !within(kv / 10, THING, BRIDGE) || !isVillage(kv % 10)) {
            return error(BEYOND);
        }
        if (!within(cost, 0, MOST_COST) || !within(least, 0, MOST_LEAST) || !within(reach, 0, MOST_REACH)) {
            return error(BEYOND);
        }
        if (desk.land.thingCount >= MOST_THINGS) {
            return error(FULL);
        }
        int number = desk.land.thingCount;
        return desk.land.addThing(newThing(kv / 10, number, kv % 10, cost, least, reach));
    }

    public int ofThing(int thing, int what) {
        if (!isThing(thing) || !within(what, 0, 9)) {
            return error(BEYOND);
        }
        Land land = desk.land;
        Thing one = land.things[thing];
        switch (what) {
            case 0: return one.kindNumber();
            case 1: return one.home;
            case 2: return one.cost;
            case 3: return one.least;
            case 4: return one.reach;
            case 5: return land.isOpen(thing) ? 1 : 0;
            case 6: return land.promises[thing];
            case 7: return one.usersFrom(land, one.home, land.serves[thing]);
            case 8: return one.giving();
            default: return land.serves[thing];
        }
    }

    public int as(int thing, int kind) {
        if (!isThing(thing) || !within(kind, THING, BRIDGE)) {
            return error(BEYOND);
        }
        Thing one = desk.land.things[thing];
        return one.isOf(kind) ? one.least : error(KIND);
    }

    public int open(int thing, int is) {
        if (!isThing(thing) || !within(is, 0, 1)) {
            return error(BEYOND);
        }
        int was = desk.land.isOpen(thing) ? 1 : 0;
        desk.land.setOpen(thing, is == 1);
        return was;
    }

    public int promise(int thing, int year) {
        if (!isThing(thing) || !within(year, -1, LAST_YEAR)) {
            return error(BEYOND);
        }
        int was = desk.land.promises[thing];
        desk.land.promises[thing] = year;
        return was;
    }

    public int comfort(int village) {
        if (!isVillage(village)) {
            return error(BEYOND);
        }
        return desk.land.comfortOf(village);
    }

    public int haven() {
        if (desk.land.villageCount == 0) {
            return error(NONE);
        }
        desk.land.weighComforts();
        return desk.land.mostComfort();
    }

    // ---- texts, years

    public int feed(long word, int n) {
        if (!within(n, 1, 8)) {
            return error(BEYOND);
        }
        if (desk.tape.size + n > MOST_TAPE) {
            return error(FULL);
        }
        for (int i = 0; i < n; i++) {
            desk.tape.add((int) (word >>> 8 * i) & 255);
        }
        return desk.tape.size;
    }

    public int text(int use) {
        if (!within(use, SHUT, COME)) {
            return error(BEYOND);
        }
        Rule rule = new Rule(use);
        int fault = rule.readFrom(desk.tape);
        desk.tape.size = 0;
        if (fault >= 0) {
            return -10 - fault;
        }
        desk.land.rules[use] = rule;
        return 1;
    }

    public int law(int use, int a, int b, int c) {
        switch (use) {
            case SHUT: return desk.land.isToShut(a, b, c, 0) ? 1 : 0;
            case GO: return desk.land.shareToGo(a, b, c);
            case COME: return desk.land.shareToCome(a, b);
            default: return error(BEYOND);
        }
    }

    public int rate(int rate, int v) {
        if (!within(rate, BORN, COIN) || !within(v, RATE_LEAST[rate], RATE_MOST[rate])) {
            return error(BEYOND);
        }
        int was = desk.land.rates[rate];
        desk.land.rates[rate] = v;
        return was;
    }

    public int years(int n) {
        if (!within(n, 1, MOST_YEARS)) {
            return error(BEYOND);
        }
        if (desk.land.now + n > LAST_YEAR) {
            return error(STATE);
        }
        desk.land.passYears(n);
        return desk.land.now;
    }

    // ---- ahead

    public int left(int n, int what) {
        if (!isAhead(n) || !within(what, 0, 3)) {
            return error(BEYOND);
        }
        ahead.copyFrom(desk.land);
        ahead.passYears(n);
        switch (what) {
            case 0: return ahead.allPeople();
            case 1: return ahead.rates[COIN];
            case 2: return ahead.openBits;
            default: return ahead.allComfort();
        }
    }

    public int then(int n, int village, int sort) {
        if (!isAhead(n) || !isVillage(village) || !within(sort, YOUNG, ALL_SORTS)) {
            return error(BEYOND);
        }
        ahead.copyFrom(desk.land);
        ahead.passYears(n);
        return ahead.peopleOf(village, sort);
    }

    public int falls(int village, int n) {
        if (!isVillage(village) || !isAhead(n)) {
            return error(BEYOND);
        }
        ahead.copyFrom(desk.land);
        for (int k = 0; k <= n; k++) {
            if (ahead.allOf(village) == 0) {
                return k;
            }
            ahead.passYear();
        }
        return error(NONE);
    }

    public int broke(int n) {
        if (!isAhead(n)) {
            return error(BEYOND);
        }
        ahead.copyFrom(desk.land);
        for (int k = 0; k <= n; k++) {
            if (ahead.rates[COIN] < 0) {
                return k;
            }
            ahead.passYear();
        }
        return error(NONE);
    }

    public int rest(int n) {
        if (!within(n, 1, MOST_AHEAD)) {
            return error(BEYOND);
        }
        ahead.copyFrom(desk.land);
        path.copyFrom(desk.land);
        for (int k = 1; k <= n; k++) {
            ahead.passYear();
            if (ahead.hasPeopleOf(path)) {
                return k;
            }
            path.takePeopleOf(ahead);
        }
        return error(NONE);
    }

    public int keep(int c, int n, int what) {
        if (!within(c, 0, MOST_BUDGET) || !isAhead(n) || !within(what, 0, 1)) {
            return error(BEYOND);
        }
        int choice = desk.land.firstOpen(MOST_KEPT);
        int bestSet = 0;
        int bestCost = 0;
        int bestLeft = -1;
        // Sets are tried from the least bits on, so a later one must be better to be taken.
        for (int set = 0; set <= choice; set++) {
            if ((set & ~choice) != 0) {
                continue;
            }
            int cost = desk.land.costOf(set);
            int left = cost > c ? -1 : leftWithOpen(desk.land.openBits & ~choice | set, n);
            if (left > bestLeft || left == bestLeft && cost < bestCost) {
                bestSet = set;
                bestCost = cost;
                bestLeft = left;
            }
        }
        return what == 0 ? bestSet : bestLeft;
    }

    public int when(int thing, int n) {
        if (!isThing(thing) || !isAhead(n)) {
            return error(BEYOND);
        }
        if (!desk.land.isOpen(thing)) {
            return error(STATE);
        }
        path.copyFrom(desk.land);
        int best = 0;
        int bestLeft = -1;
        for (int k = 0; k <= n; k++) {
            ahead.copyFrom(path);
            if (k < n) {
                ahead.setOpen(thing, false);
            }
            ahead.passYears(n - k);
            int left = ahead.allPeople();
            if (left > bestLeft) {
                best = k;
                bestLeft = left;
            }
            path.passYear();
        }
        return best;
    }

    public int worth(int thing, int n) {
        if (!isThing(thing) || !isAhead(n)) {
            return error(BEYOND);
        }
        int open = desk.land.openBits;
        return leftWithOpen(open | 1 << thing, n) - leftWithOpen(open & ~(1 << thing), n);
    }

    public int promised(int thing, int year, int n) {
        if (!isThing(thing) || !within(year, 0, LAST_YEAR) || !isAhead(n)) {
            return error(BEYOND);
        }
        return leftWithPromise(thing, year, n) - leftWithPromise(thing, -1, n);
    }

    public int edge(int thing, int n) {
        if (!isThing(thing) || !isAhead(n)) {
            return error(BEYOND);
        }
        // No year opens a thing again: one that is shut now has no edge, however many there are.
        if (!desk.land.isOpen(thing)) {
            return error(NONE);
        }
        for (int young = 0; young <= MOST_EDGE; young++) {
            if (staysWith(young, thing, n)) {
                return young;
            }
        }
        return error(NONE);
    }

    public int site(int one, int other) {
        int k = errorOfTwo(one, other);
        return k == 0 ? bestSite(one) : error(k);
    }

    public int join(int one, int other) {
        int k = errorOfTwo(one, other);
        if (k != 0) {
            return error(k);
        }
        Land land = desk.land;
        if (land.thingCount >= MOST_THINGS) {
            return error(FULL);
        }
        Thing first = land.things[one];
        int cost = Math.min(MOST_COST, first.cost + land.things[other].cost);
        int kind = first.kindNumber();
        land.setOpen(one, false);
        land.setOpen(other, false);
        return land.addThing(newThing(kind, land.thingCount, bestSite(one), cost, first.least, first.reach));
    }

    public int road(int n) {
        if (!isAhead(n)) {
            return error(BEYOND);
        }
        int best = -1;
        int bestLeft = -1;
        for (int one = 0; one < desk.land.villageCount; one++) {
            for (int other = one + 1; other < desk.land.villageCount; other++) {
                int left = desk.land.isMended(one, other) ? -1 : leftWithRoad(one, other, n);
                if (left > bestLeft) {
                    best = 10 * one + other;
                    bestLeft = left;
                }
            }
        }
        return best < 0 ? error(NONE) : best;
    }

    // ---- draws, voices, sheets, images, what is told

    public int seed(int v) {
        int was = desk.z;
        desk.z = v;
        return was;
    }

    public int voice(int thing, int act, int x) {
        if (!isThing(thing) || !within(act, 0, 3)) {
            return error(BEYOND);
        }
        Thing one = desk.land.things[thing];
        traced.size = 0;
        switch (act) {
            case 0: return one.holding(x, traced);
            case 1: return one.resting(x, traced);
            case 2: return one.falling(x, traced);
            default: return one.telling(x, traced);
        }
    }

    public int trace(int i) {
        return traced.has(i) ? traced.numbers[i] : error(NONE);
    }

    public int sheet(int sheet, int bits, int n) {
        if (!isSheet(sheet) || bits != 0 && bits != 8 && bits != 16 && bits != 32) {
            return error(BEYOND);
        }
        if (bits == 0) {
            sheets[sheet].shape(0, 0);
            return 1;
        }
        if (n < 0) {
            return error(STATE);
        }
        if (n > MOST_ROW) {
            return error(BEYOND);
        }
        sheets[sheet].shape(bits, n);
        return 1;
    }

    public int put(int sheet, int i, int v) {
        if (!isSheet(sheet)) {
            return error(BEYOND);
        }
        Row row = sheets[sheet];
        if (row.bits == 0) {
            return error(NONE);
        }
        if (!row.has(i)) {
            return error(BEYOND);
        }
        row.numbers[i] = row.narrowed(v);
        return 1;
    }

    public int move(int sheet, int i, int other, int j, int n) {
        if (!isSheet(sheet) || !isSheet(other)) {
            return error(BEYOND);
        }
        Row from = sheets[sheet];
        Row to = sheets[other];
        if (from.bits == 0 || to.bits == 0) {
            return error(NONE);
        }
        if (from.bits != to.bits) {
            return error(KIND);
        }
        if (!from.hasRun(i, n) || !to.hasRun(j, n)) {
            return error(BEYOND);
        }
        System.arraycopy(from.numbers, i, to.numbers, j, n);
        return n;
    }

    public int image() {
        kept.copyFrom(desk);
        images++;
        return images;
    }

    public int restore() {
        if (images == 0) {
            return error(NONE);
        }
        desk.copyFrom(kept);
        return desk.land.now;
    }

    public int tell(int v) {
        if (desk.waiting.size >= MOST_WAITING) {
            return error(FULL);
        }
        desk.waiting.add(v);
        return desk.waiting.size;
    }

    public int check(int n) {
        int told = desk.waiting.size;
        desk.waiting.size = 0;
        if (!isAhead(n)) {
            return error(BEYOND);
        }
        ahead.copyFrom(desk.land);
        ahead.passYears(n);
        int count = ahead.villageCount;
        int seen = 0;
        for (int place = 0; place < count; place++) {
            int due = ahead.mostPeopled(seen);
            if (place >= told || desk.waiting.numbers[place] != due) {
                return 1 + place;
            }
            seen |= 1 << due;
        }
        return told > count ? 1 + count : 0;
    }

    public int count(int what) {
        switch (what) {
            case 0: return desk.land.now;
            case 1: return desk.land.villageCount;
            case 2: return desk.land.thingCount;
            case 3: return Integer.bitCount(desk.land.openBits);
            case 4: return desk.land.rates[COIN];
            case 5: return desk.tape.size;
            case 6: return desk.waiting.size;
            case 7: return traced.size;
            case 8: return desk.z;
            default: return error(BEYOND);
        }
    }

    public int told(int k) {
        return within(k, BEYOND, KIND) ? errors[k] : error(BEYOND);
    }

    // ---- what the calls share

    private int error(int k) {
        errors[k]++;
        return LOW - k;
    }

    private static boolean within(int v, int least, int most) {
        return v >= least && v <= most;
    }

    private static boolean isAhead(int n) {
        return within(n, 0, MOST_AHEAD);
    }

    private boolean isVillage(int number) {
        return within(number, 0, desk.land.villageCount - 1);
    }

    private boolean isThing(int number) {
        return within(number, 0, desk.land.thingCount - 1);
    }

    private boolean isSheet(int number) {
        return within(number, 0, sheets.length - 1);
    }

    private static boolean isVillageAsTold(int place, int young, int grown, int old) {
        return place >= 0 && place / 100 <= MOST_XY && place % 100 <= MOST_XY
            && within(young, 0, MOST_PEOPLE) && within(grown, 0, MOST_PEOPLE) && within(old, 0, MOST_PEOPLE);
    }

    private static Thing newThing(int kind, int number, int home, int cost, int least, int reach) {
        switch (kind) {
            case SCHOOL: return new School(number, home, cost, least, reach);
            case SHOP: return new Shop(number, home, cost, least, reach);
            case DOCTOR: return new Doctor(number, home, cost, least, reach);
            case BUS: return new Bus(number, home, cost, least, reach);
            case WHEELS: return new Wheels(number, home, cost, least, reach);
            case BRIDGE: return new Bridge(number, home, cost, least, reach);
            default: return new Thing(number, home, cost, least, reach);
        }
    }

    private int leftWithOpen(int openBits, int n) {
        ahead.copyFrom(desk.land);
        ahead.openBits = openBits;
        ahead.passYears(n);
        return ahead.allPeople();
    }

    private int leftWithPromise(int thing, int year, int n) {
        ahead.copyFrom(desk.land);
        ahead.promises[thing] = year;
        ahead.passYears(n);
        return ahead.allPeople();
    }

    private int leftWithRoad(int one, int other, int n) {
        ahead.copyFrom(desk.land);
        ahead.setMended(one, other, true);
        ahead.passYears(n);
        return ahead.allPeople();
    }

    private boolean staysWith(int young, int thing, int n) {
        ahead.copyFrom(desk.land);
        ahead.people[SORTS * ahead.things[thing].home + YOUNG] = young;
        for (int k = 0; k < n && ahead.isOpen(thing); k++) {
            ahead.passYear();
        }
        return ahead.isOpen(thing);
    }

    private int errorOfTwo(int one, int other) {
        if (!isThing(one) || !isThing(other) || one == other) {
            return BEYOND;
        }
        return desk.land.things[one].kindNumber() == desk.land.things[other].kindNumber() ? 0 : KIND;
    }

    private int bestSite(int thing) {
        Land land = desk.land;
        Thing like = land.things[thing];
        int best = 0;
        int most = -1;
        for (int village = 0; village < land.villageCount; village++) {
            int users = like.usersFrom(land, village, land.servedFrom(village, like.spanWide()));
            if (users > most) {
                best = village;
                most = users;
            }
        }
        return best;
    }

    /** A row of numbers with an end: a SHEET, THE TRACE, THE TAPE, the numbers that wait. */
    static final class Row {
        final int[] numbers;
        int size = 0;
        // 0: a SHEET that is missing; rows that are no SHEETS don't use it.
        int bits = 0;

        Row(int most) {
            numbers = new int[Math.max(0, most)];
        }

        void add(int v) {
            if (size < numbers.length) {
                numbers[size] = v;
                size++;
            }
        }

        boolean has(int i) {
            return i >= 0 && i < size;
        }

        // Said without i + n, which could go round.
        boolean hasRun(int i, int n) {
            return i >= 0 && n >= 0 && n <= size && i <= size - n;
        }

        void shape(int newBits, int newSize) {
            bits = newBits;
            size = Math.max(0, Math.min(newSize, numbers.length));
            for (int i = 0; i < numbers.length; i++) {
                numbers[i] = 0;
            }
        }

        int narrowed(int v) {
            switch (bits) {
                case 8: return (byte) v;
                case 16: return (short) v;
                default: return v;
            }
        }

        void copyFrom(Row other) {
            size = Math.min(other.size, numbers.length);
            System.arraycopy(other.numbers, 0, numbers, 0, size);
        }
    }

    /** All that an IMAGE keeps. */
    static final class Desk {
        final Land land = new Land();
        final Row tape = new Row(MOST_TAPE);
        final Row waiting = new Row(MOST_WAITING);
        int z = 1;

        int draw() {
            z = z * 1103515245 + 12345;
            return z >>> 8;
        }

        void copyFrom(Desk other) {
            land.copyFrom(other.land);
            tape.copyFrom(other.tape);
            waiting.copyFrom(other.waiting);
            z = other.z;
        }
    }

    /** VILLAGES, THINGS, TEXTS and RATES: all that a year needs. */
    static final class Land {
        int now = 0;
        int pace = 2;
        int villageCount = 0;
        int thingCount = 0;
        int openBits = 0;
        final int[] places = new int[MOST_VILLAGES];
        // SORTS of VILLAGE 0, then those of VILLAGE 1, ..
        final int[] people = new int[SORTS * MOST_VILLAGES];
        final int[] mended = new int[MOST_VILLAGES];
        final Thing[] things = new Thing[MOST_THINGS];
        final int[] promises = new int[MOST_THINGS];
        // VILLAGES that a THING SERVES, as bits: years don't change them, so they are worked out ahead.
        final int[] serves = new int[MOST_THINGS];
        // What each THING GIVES, asked once: the calls of a year stay at most eight deep so.
        final int[] gives = new int[MOST_THINGS];
        final int[] rates = RATE_FIRST.clone();
        // null: a USE without a TEXT.
        final Rule[] rules = new Rule[USES];
        final int[] comforts = new int[MOST_VILLAGES];
        final int[] arrivals = new int[SORTS];

        void copyFrom(Land other) {
            now = other.now;
            pace = other.pace;
            villageCount = other.villageCount;
            thingCount = other.thingCount;
            openBits = other.openBits;
            System.arraycopy(other.places, 0, places, 0, places.length);
            System.arraycopy(other.people, 0, people, 0, people.length);
            System.arraycopy(other.mended, 0, mended, 0, mended.length);
            System.arraycopy(other.promises, 0, promises, 0, promises.length);
            System.arraycopy(other.serves, 0, serves, 0, serves.length);
            System.arraycopy(other.gives, 0, gives, 0, gives.length);
            System.arraycopy(other.rates, 0, rates, 0, rates.length);
            for (int i = 0; i < things.length; i++) {
                things[i] = other.things[i];
            }
            for (int use = 0; use < rules.length; use++) {
                rules[use] = other.rules[use];
            }
        }

        int addVillage(int place, int young, int grown, int old) {
            int number = villageCount;
            if (number >= MOST_VILLAGES) {
                return -1;
            }
            places[number] = place;
            people[SORTS * number + YOUNG] = young;
            people[SORTS * number + GROWN] = grown;
            people[SORTS * number + OLD] = old;
            villageCount++;
            survey();
            return number;
        }

        int addThing(Thing one) {
            int number = thingCount;
            if (number >= MOST_THINGS) {
                return -1;
            }
            things[number] = one;
            promises[number] = -1;
            gives[number] = one.giving();
            setOpen(number, true);
            thingCount++;
            survey();
            return number;
        }

        boolean isOpen(int thing) {
            return (openBits >> thing & 1) != 0;
        }

        void setOpen(int thing, boolean is) {
            openBits = is ? openBits | 1 << thing : openBits & ~(1 << thing);
        }

        boolean isMended(int one, int other) {
            return (mended[one] >> other & 1) != 0;
        }

        void setMended(int one, int other, boolean is) {
            mended[one] = is ? mended[one] | 1 << other : mended[one] & ~(1 << other);
            mended[other] = is ? mended[other] | 1 << one : mended[other] & ~(1 << one);
            survey();
        }

        int wayOf(int one, int other) {
            int x = Math.abs(places[one] / 100 - places[other] / 100);
            int y = Math.abs(places[one] % 100 - places[other] % 100);
            int whole = (x + y) * pace;
            return isMended(one, other) ? whole / 2 : whole;
        }

        int servedFrom(int home, int span) {
            int served = 0;
            for (int village = 0; village < villageCount; village++) {
                if (wayOf(home, village) <= span) {
                    served |= 1 << village;
                }
            }
            return served;
        }

        // Called behind whatever changes a WAY, or brings a VILLAGE or a THING.
        void survey() {
            for (int i = 0; i < thingCount; i++) {
                serves[i] = servedFrom(things[i].home, things[i].spanWide());
            }
        }

        int peopleOf(int village, int sort) {
            return sort == ALL_SORTS ? allOf(village) : people[SORTS * village + sort];
        }

        int allOf(int village) {
            int first = SORTS * village;
            return people[first + YOUNG] + people[first + GROWN] + people[first + OLD];
        }

        int allPeople() {
            int all = 0;
            for (int village = 0; village < villageCount; village++) {
                all += allOf(village);
            }
            return all;
        }

        int mostPeopled(int seen) {
            int best = -1;
            for (int village = 0; village < villageCount; village++) {
                boolean isNew = (seen >> village & 1) == 0;
                if (isNew && (best < 0 || allOf(village) > allOf(best))) {
                    best = village;
                }
            }
            return best;
        }

        boolean hasPeopleOf(Land other) {
            for (int i = 0; i < SORTS * villageCount; i++) {
                if (people[i] != other.people[i]) {
                    return false;
                }
            }
            return true;
        }

        void takePeopleOf(Land other) {
            System.arraycopy(other.people, 0, people, 0, people.length);
        }

        int firstOpen(int most) {
            int found = 0;
            for (int i = 0; i < thingCount && Integer.bitCount(found) < most; i++) {
                found |= openBits & 1 << i;
            }
            return found;
        }

        int costOf(int set) {
            int cost = 0;
            for (int i = 0; i < thingCount; i++) {
                if ((set >> i & 1) != 0) {
                    cost += things[i].cost;
                }
            }
            return cost;
        }

        int comfortOf(int village) {
            int comfort = 0;
            for (int i = 0; i < thingCount; i++) {
                if (isOpen(i) && (serves[i] >> village & 1) != 0) {
                    comfort += gives[i];
                }
            }
            return comfort;
        }

        void weighComforts() {
            for (int village = 0; village < villageCount; village++) {
                comforts[village] = comfortOf(village);
            }
        }

        int mostComfort() {
            int best = 0;
            for (int village = 1; village < villageCount; village++) {
                if (comforts[village] > comforts[best]) {
                    best = village;
                }
            }
            return best;
        }

        int allComfort() {
            int all = 0;
            for (int village = 0; village < villageCount; village++) {
                all += comfortOf(village);
            }
            return all;
        }

        boolean isToShut(int users, int least, int cost, int year) {
            Rule rule = rules[SHUT];
            return rule == null ? users < least : rule.workOut(users, least, cost, year) != 0;
        }

        int shareToGo(int sort, int comfort, int all) {
            Rule rule = rules[GO];
            int share = rule == null ? (3 - sort) * 4 - comfort : rule.workOut(sort, comfort, all, 0);
            return Math.max(0, Math.min(100, share));
        }

        int shareToCome(int comfort, int all) {
            Rule rule = rules[COME];
            int share = rule == null ? 0 : rule.workOut(comfort, all, 0, 0);
            return Math.max(0, Math.min(20, share));
        }

        void passYears(int n) {
            for (int k = 0; k < n; k++) {
                passYear();
            }
        }

        void passYear() {
            shutByRule();
            weighComforts();
            letGo();
            letCome();
            letAge();
            rates[COIN] += rates[INCOME] - costOf(openBits);
            now++;
        }

        private void shutByRule() {
            for (int i = 0; i < thingCount; i++) {
                if (!isOpen(i) || promises[i] >= now) {
                    continue;
                }
                Thing one = things[i];
                int users = one.usersFrom(this, one.home, serves[i]);
                if (isToShut(users, one.least, one.cost, now)) {
                    setOpen(i, false);
                }
            }
        }

        // Who comes to HAVEN is added last: none of them goes again in the same year.
        private void letGo() {
            int haven = mostComfort();
            for (int sort = 0; sort < SORTS; sort++) {
                arrivals[sort] = 0;
            }
            for (int village = 0; village < villageCount; village++) {
                int all = allOf(village);
                for (int sort = 0; sort < SORTS; sort++) {
                    int at = SORTS * village + sort;
                    int gone = people[at] * shareToGo(sort, comforts[village], all) / 100;
                    people[at] -= gone;
                    arrivals[sort] += village == haven ? 0 : gone / 2;
                }
            }
            for (int sort = 0; sort < SORTS && villageCount > 0; sort++) {
                people[SORTS * haven + sort] = held(people[SORTS * haven + sort] + arrivals[sort]);
            }
        }

        private void letCome() {
            for (int village = 0; village < villageCount; village++) {
                int all = allOf(village);
                int come = all * shareToCome(comforts[village], all) / 100;
                people[SORTS * village + GROWN] = held(people[SORTS * village + GROWN] + come);
            }
        }

        private void letAge() {
            for (int village = 0; village < villageCount; village++) {
                int first = SORTS * village;
                int young = people[first + YOUNG];
                int grown = people[first + GROWN];
                int old = people[first + OLD];
                int born = grown * rates[BORN] / 100;
                int aged = young * rates[AGED] / 100;
                int older = grown * rates[OLDER] / 100;
                int dead = old * rates[DIE] / 100;
                people[first + YOUNG] = held(young + born - aged);
                people[first + GROWN] = held(grown + aged - older);
                people[first + OLD] = held(old + older - dead);
            }
        }

        private static int held(int people) {
            return Math.min(MOST_PEOPLE, people);
        }
    }

    /** A TEXT of a USE, as steps over a stack: an operator stands behind what it joins. */
    static final class Rule {
        // A step from 0 to 9999 is a number; NAMED and above a NAME; below 0 an operator's sign, negated.
        private static final int NAMED = 10000;

        private final String names;
        private final Row steps = new Row(MOST_TAPE);
        private final int[] stack = new int[MOST_TAPE];
        private int place = 0;
        private int fault = -1;

        Rule(int use) {
            names = use == SHUT ? "ulcy" : use == GO ? "swn" : "wn";
        }

        /** The FAULT of the TEXT on a tape, or -1 if it has none. */
        int readFrom(Row tape) {
            readText(tape, 0);
            if (fault < 0 && place < tape.size) {
                fail();
            }
            return fault;
        }

        int workOut(int a, int b, int c, int d) {
            int top = 0;
            for (int i = 0; i < steps.size; i++) {
                int step = steps.numbers[i];
                if (step >= 0 && top < stack.length) {
                    stack[top] = step >= NAMED ? named(step - NAMED, a, b, c, d) : step;
                    top++;
                } else if (step == -'!' && top >= 1) {
                    stack[top - 1] = stack[top - 1] == 0 ? 1 : 0;
                } else if (top >= 2) {
                    top--;
                    stack[top - 1] = joined(-step, stack[top - 1], stack[top]);
                }
            }
            return stack[0];
        }

        private static int named(int i, int a, int b, int c, int d) {
            switch (i) {
                case 0: return a;
                case 1: return b;
                case 2: return c;
                default: return d;
            }
        }

        private static int joined(int sign, int one, int other) {
            switch (sign) {
                case '|': return one != 0 || other != 0 ? 1 : 0;
                case '&': return one != 0 && other != 0 ? 1 : 0;
                case '<': return one < other ? 1 : 0;
                case '=': return one == other ? 1 : 0;
                case '>': return one > other ? 1 : 0;
                case '+': return one + other;
                case '-': return one - other;
                case '*': return one * other;
                case '/': return other == 0 ? 0 : one / other;
                default: return other == 0 ? 0 : one % other;
            }
        }

        // Only the first byte that fails is the FAULT.
        private void fail() {
            if (fault < 0) {
                fault = place;
            }
        }

        // Behind a FAULT there is no next byte: so all that reads ends.
        private int next(Row tape) {
            return fault < 0 && tape.has(place) ? tape.numbers[place] : -1;
        }

        private void readText(Row tape, int open) {
            readBoth(tape, open);
            for (int i = 0; i < MOST_TAPE && next(tape) == '|'; i++) {
                place++;
                readBoth(tape, open);
                steps.add(-'|');
            }
        }

        private void readBoth(Row tape, int open) {
            readCompared(tape, open);
            for (int i = 0; i < MOST_TAPE && next(tape) == '&'; i++) {
                place++;
                readCompared(tape, open);
                steps.add(-'&');
            }
        }

        private void readCompared(Row tape, int open) {
            readSum(tape, open);
            int sign = next(tape);
            if (sign == '<' || sign == '=' || sign == '>') {
                place++;
                readSum(tape, open);
                steps.add(-sign);
            }
        }

        private void readSum(Row tape, int open) {
            readProduct(tape, open);
            int sign = next(tape);
            for (int i = 0; i < MOST_TAPE && (sign == '+' || sign == '-'); i++) {
                place++;
                readProduct(tape, open);
                steps.add(-sign);
                sign = next(tape);
            }
        }

        private void readProduct(Row tape, int open) {
            readPart(tape, open);
            int sign = next(tape);
            for (int i = 0; i < MOST_TAPE && (sign == '*' || sign == '/' || sign == '%'); i++) {
                place++;
                readPart(tape, open);
                steps.add(-sign);
                sign = next(tape);
            }
        }

        private void readPart(Row tape, int open) {
            int sign = next(tape);
            if (isDigit(sign)) {
                readNumber(tape);
            } else if ((sign == '!' || sign == '(') && open < MOST_OPEN_SIGNS) {
                place++;
                readOpened(sign, tape, open + 1);
            } else {
                readName(sign);
            }
        }

        private void readOpened(int sign, Row tape, int open) {
            if (sign == '!') {
                readPart(tape, open);
                steps.add(-'!');
                return;
            }
            readText(tape, open);
            if (next(tape) == ')') {
                place++;
            } else {
                fail();
            }
        }

        private void readNumber(Row tape) {
            int number = 0;
            for (int i = 0; i < 4 && isDigit(next(tape)); i++) {
                number = 10 * number + next(tape) - '0';
                place++;
            }
            steps.add(number);
        }

        private void readName(int sign) {
            int i = sign < 0 ? -1 : names.indexOf((char) sign);
            if (i < 0) {
                fail();
                return;
            }
            place++;
            steps.add(NAMED + i);
        }

        private static boolean isDigit(int sign) {
            return sign >= '0' && sign <= '9';
        }
    }

    /** KIND 0, and what all KINDS have; what it is never changes, so lands share it. */
    static class Thing {
        final int number;
        final int home;
        final int cost;
        final int least;
        final int reach;

        Thing(int number, int home, int cost, int least, int reach) {
            this.number = number;
            this.home = home;
            this.cost = cost;
            this.least = least;
            this.reach = reach;
        }

        int kindNumber() {
            return THING;
        }

        boolean isOf(int kind) {
            return kind == THING;
        }

        int spanWide() {
            return reach;
        }

        int giving() {
            return 1;
        }

        /** USERS if it stood in a village from which it serves so many: SITE asks that of others than home. */
        int usersFrom(Land land, int village, int served) {
            return land.allOf(village);
        }

        int holding(int x, Row trace) {
            trace.add(10);
            return x + number;
        }

        int resting(int x, Row trace) {
            trace.add(11);
            return holding(x, trace) * 2;
        }

        int falling(int x, Row trace) {
            trace.add(12);
            return x - least;
        }

        int telling(int x, Row trace) {
            trace.add(13);
            return resting(x, trace) ^ falling(x, trace);
        }
    }

    static class School extends Thing {
        School(int number, int home, int cost, int least, int reach) {
            super(number, home, cost, least, reach);
        }

        int kindNumber() {
            return SCHOOL;
        }

        boolean isOf(int kind) {
            return kind == SCHOOL || super.isOf(kind);
        }

        int giving() {
            return 5;
        }

        int usersFrom(Land land, int village, int served) {
            int users = 0;
            for (int i = 0; i < land.villageCount; i++) {
                if ((served >> i & 1) != 0) {
                    users += land.people[SORTS * i + YOUNG];
                }
            }
            return users;
        }

        int resting(int x, Row trace) {
            trace.add(20);
            return super.resting(x, trace) - falling(1, trace);
        }
    }

    static class Shop extends Thing {
        Shop(int number, int home, int cost, int least, int reach) {
            super(number, home, cost, least, reach);
        }

        int kindNumber() {
            return SHOP;
        }

        boolean isOf(int kind) {
            return kind == SHOP || super.isOf(kind);
        }

        int giving() {
            return 3;
        }

        int usersFrom(Land land, int village, int served) {
            int users = 0;
            for (int i = 0; i < land.villageCount; i++) {
                if ((served >> i & 1) != 0) {
                    users += land.allOf(i);
                }
            }
            return users;
        }

        int holding(int x, Row trace) {
            trace.add(30);
            return super.holding(x, trace) * 3;
        }
    }

    static final class Doctor extends Shop {
        Doctor(int number, int home, int cost, int least, int reach) {
            super(number, home, cost, least, reach);
        }

        int kindNumber() {
            return DOCTOR;
        }

        boolean isOf(int kind) {
            return kind == DOCTOR || super.isOf(kind);
        }

        int giving() {
            return super.giving() + 2;
        }

        int usersFrom(Land land, int village, int served) {
            return super.usersFrom(land, village, served) - land.people[SORTS * village + GROWN];
        }

        int falling(int x, Row trace) {
            trace.add(40);
            return -super.falling(x, trace);
        }

        int holding(int x, Row trace) {
            trace.add(41);
            return super.holding(x + 1, trace);
        }
    }

    static class Bus extends Thing {
        Bus(int number, int home, int cost, int least, int reach) {
            super(number, home, cost, least, reach);
        }

        int kindNumber() {
            return BUS;
        }

        boolean isOf(int kind) {
            return kind == BUS || super.isOf(kind);
        }

        int giving() {
            return 2 * super.giving();
        }

        int usersFrom(Land land, int village, int served) {
            int users = 0;
            for (int i = 0; i < land.villageCount; i++) {
                if (i != village && (served >> i & 1) != 0) {
                    users += land.people[SORTS * i + GROWN] + land.people[SORTS * i + OLD];
                }
            }
            return users;
        }

        int telling(int x, Row trace) {
            trace.add(50);
            return super.telling(x, trace) - holding(2, trace);
        }
    }

    static final class Wheels extends School {
        Wheels(int number, int home, int cost, int least, int reach) {
            super(number, home, cost, least, reach);
        }

        int kindNumber() {
            return WHEELS;
        }

        boolean isOf(int kind) {
            return kind == WHEELS || super.isOf(kind);
        }

        int spanWide() {
            return 2 * super.spanWide();
        }

        int giving() {
            return super.giving() - 1;
        }

        int holding(int x, Row trace) {
            trace.add(60);
            return super.holding(x, trace) ^ number;
        }

        int resting(int x, Row trace) {
            trace.add(61);
            return super.resting(x, trace) + 5;
        }
    }

    static final class Bridge extends Bus {
        Bridge(int number, int home, int cost, int least, int reach) {
            super(number, home, cost, least, reach);
        }

        int kindNumber() {
            return BRIDGE;
        }

        boolean isOf(int kind) {
            return kind == BRIDGE || super.isOf(kind);
        }

        int giving() {
            return super.giving() + 1;
        }

        int usersFrom(Land land, int village, int served) {
            return super.usersFrom(land, village, served) + land.allOf(village);
        }

        int telling(int x, Row trace) {
            trace.add(70);
            return resting(x, trace) - super.telling(x, trace);
        }
    }
}
