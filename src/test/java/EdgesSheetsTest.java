/** Each sentence of Terms 4 on voices and draws, of Terms 5, and of promises 35 to 46, with its edges and what is beside them. */
final class EdgesSheetsTest {
    private static final Due due = new Due();

    public static void main(String[] args) {
        voices();
        bodies();
        voicesGoRound();
        theTrace();
        draws();
        sheets();
        seed();
        voice();
        trace();
        sheet();
        sheetErrors();
        put();
        putErrors();
        move();
        moveOntoItself();
        moveErrors();
        moveBeyond();
        image();
        imageInPlaceOfOne();
        imageLeavesOut();
        restore();
        tell();
        check();
        checkBeyond();
        count();
        told();
        due.end();
    }

    /** THINGS 0 to 9, of KINDS 0 to 6, 0, .., with LEAST 100, 101, .. */
    private static EmptyLand ofAllKinds() {
        EmptyLand x = Lands.alike(1, 0);
        for (int i = 0; i < 10; i++) {
            x.thing(10 * (i % 7), 0, 100 + i, 0);
        }
        return x;
    }

    private static int holds(int kind, int n, int x) {
        switch (kind) {
            case 2: return (x + n) * 3;
            case 3: return (x + 1 + n) * 3;
            case 5: return x + n ^ n;
            default: return x + n;
        }
    }

    private static int rests(int kind, int n, int l, int x) {
        int twice = holds(kind, n, x) * 2;
        return kind == 1 ? twice - (1 - l) : kind == 5 ? twice - (1 - l) + 5 : twice;
    }

    private static int falls(int kind, int l, int x) {
        return kind == 3 ? -(x - l) : x - l;
    }

    private static int tells(int kind, int n, int l, int x) {
        int plain = rests(kind, n, l, x) ^ falls(kind, l, x);
        int bus = plain - holds(kind, n, 2);
        return kind == 4 ? bus : kind == 6 ? rests(kind, n, l, x) - bus : plain;
    }

    private static void voices() {
        due.says(0, "VOICES of a THING, with a number x (ints that go round); n is its number, l its LEAST: "
            + "0 holds, 1 rests, 2 falls, 3 tells.");
        EmptyLand land = ofAllKinds();
        int[] numbers = {0, 1, -1, 9, 100, -1000000001, 1 << 30, Due.MAX, Due.MIN};
        for (int x : numbers) {
            for (int n = 0; n < 10; n++) {
                int kind = n % 7;
                int l = 100 + n;
                due.is("holds of " + n, land.voice(n, 0, x), holds(kind, n, x));
                due.is("rests of " + n, land.voice(n, 1, x), rests(kind, n, l, x));
                due.is("falls of " + n, land.voice(n, 2, x), falls(kind, l, x));
                due.is("tells of " + n, land.voice(n, 3, x), tells(kind, n, l, x));
            }
        }
    }

    private static void trace(EmptyLand land, int thing, int act, int... want) {
        land.voice(thing, act, 5);
        int[] got = new int[land.count(7)];
        for (int i = 0; i < got.length; i++) {
            got[i] = land.trace(i);
        }
        due.are("THE TRACE of " + thing + ", " + act, got, want);
    }

    private static void bodies() {
        due.says(0, "BODIES: THING: 10 holds: x + n. 11 rests: holds(x) * 2. 12 falls: x - l. 13 tells: rests(x) ^ falls(x). "
            + "SCHOOL: 20 rests: super.rests(x) - falls(1). SHOP: 30 holds: super.holds(x) * 3. "
            + "DOCTOR: 40 falls: -super.falls(x). 41 holds: super.holds(x + 1). BUS: 50 tells: super.tells(x) - holds(2). "
            + "WHEELS: 60 holds: super.holds(x) ^ n. 61 rests: super.rests(x) + 5. BRIDGE: 70 tells: rests(x) - super.tells(x). "
            + "holds(..) is the BODY of its KIND, or of the next KIND above that has one; "
            + "super.holds(..) that from the KIND above the BODY's on.");
        EmptyLand x = ofAllKinds();
        int[][] holds = {{10}, {10}, {30, 10}, {41, 30, 10}, {10}, {60, 10}, {10}};
        int[][] rests = {{11, 10}, {20, 11, 10, 12}, {11, 30, 10}, {11, 41, 30, 10}, {11, 10}, {61, 20, 11, 60, 10, 12}, {11, 10}};
        int[][] falls = {{12}, {12}, {12}, {40, 12}, {12}, {12}, {12}};
        int[][] tells = {{13, 11, 10, 12}, {13, 20, 11, 10, 12, 12}, {13, 11, 30, 10, 12}, {13, 11, 41, 30, 10, 40, 12},
            {50, 13, 11, 10, 12, 10}, {13, 61, 20, 11, 60, 10, 12, 12}, {70, 11, 10, 50, 13, 11, 10, 12, 10}};
        for (int kind = 0; kind <= 6; kind++) {
            trace(x, kind, 0, holds[kind]);
            trace(x, kind, 1, rests[kind]);
            trace(x, kind, 2, falls[kind]);
            trace(x, kind, 3, tells[kind]);
        }
    }

    private static void voicesGoRound() {
        due.says(0, "(ints that go round)");
        EmptyLand x = ofAllKinds();
        due.is("x + n", x.voice(1, 0, Due.MAX), Due.MIN);
        due.is("x + n, just not", x.voice(1, 0, Due.MAX - 1), Due.MAX);
        due.is("x - l", x.voice(0, 2, Due.MIN + 99), Due.MAX);
        due.is("x - l, just not", x.voice(0, 2, Due.MIN + 100), Due.MIN);
        due.is("holds(x) * 2", x.voice(0, 1, 1 << 30), Due.MIN);
        due.is("-super.falls(x)", x.voice(3, 2, Due.MIN + 103), Due.MIN);
        due.is("super.holds(x + 1)", x.voice(3, 0, Due.MAX), (Due.MIN + 3) * 3);
    }

    private static void theTrace() {
        due.says(0, "THE TRACE: the numbers of BODIES of the latest voice(), as they began (what stands left is worked out first), "
            + "the first 40.");
        EmptyLand x = ofAllKinds();
        due.is("none yet", x.count(7), 0);
        trace(x, 6, 3, 70, 11, 10, 50, 13, 11, 10, 12, 10);
        trace(x, 0, 2, 12);
        due.is("the latest alone", x.trace(1), Due.NONE);
        x.voice(10, 0, 0);
        due.is("an ERROR isn't the latest", x.trace(0), 12);
    }

    private static void draws() {
        due.says(0, "DRAWS: z is told (1 at first); each makes it z * 1103515245 + 12345 (an int), and gives z >>> 8.");
        EmptyLand x = new EmptyLand();
        due.is("1 at first", x.count(8), 1);
        // A z that makes the first draw's z -1, which gives 16777215, and the least, which gives 8388608.
        int[] firsts = {-1, Due.MIN, Due.MAX, 255, 256};
        for (int z : firsts) {
            EmptyLand y = new EmptyLand();
            y.seed((z - 12345) * inverse(1103515245));
            y.made(1);
            due.is("x of " + z, y.people(0, 4) / 100, (z >>> 8) % 31);
        }
    }

    /** The number by which an odd one is 1, as ints go. */
    private static int inverse(int odd) {
        int inverse = odd;
        for (int i = 0; i < 5; i++) {
            inverse *= 2 - odd * inverse;
        }
        return inverse;
    }

    /** Fours of a SHEET, read as VILLAGES of a new land that has the same SHEET. */
    private static int[] fours(EmptyLand x, int sheet, int villages) {
        due.is("fours come", x.villages(sheet), villages);
        int first = x.count(1) - villages;
        int[] got = new int[4 * villages];
        for (int i = 0; i < villages; i++) {
            got[4 * i] = x.people(first + i, 4);
            System.arraycopy(Lands.sorts(x, first + i), 0, got, 4 * i + 1, 3);
        }
        return got;
    }

    private static void sheets() {
        due.says(0, "5. SHEETS 0 .. 3 are rows of 8, 16, 32 bits (with a sign), at most 40 numbers, or missing (as at first).");
        EmptyLand x = new EmptyLand();
        for (int sheet = 0; sheet < 4; sheet++) {
            due.is("missing at first", x.put(sheet, 0, 0), Due.NONE);
        }
        due.areErrors("no SHEET", Due.BEYOND, x.put(-1, 0, 0), x.put(4, 0, 0));
        for (int bits = 8; bits <= 32; bits *= 2) {
            due.is("40 numbers", x.sheet(3, bits, 40), 1);
            due.is("the last", x.put(3, 39, 1), 1);
            due.is("no 41st", x.put(3, 40, 1), Due.BEYOND);
            due.is("41 numbers", x.sheet(3, bits, 41), Due.BEYOND);
        }
    }

    private static void seed() {
        due.says(35, "z becomes v: what it was (any number).");
        EmptyLand x = new EmptyLand();
        int[] numbers = {Due.MIN, Due.MAX, 0, -1, Due.LOW, Due.BEYOND, Due.NONE, Due.STATE, Due.FULL, Due.KIND};
        int was = 1;
        for (int v : numbers) {
            due.is("what it was", x.seed(v), was);
            due.is("z", x.count(8), v);
            was = v;
        }
        x.seed(0);
        for (int k = 1; k <= 5; k++) {
            due.is("no ERROR", x.told(k), 0);
        }
    }

    private static void voice() {
        due.says(36, "A VOICE of a THING: any number. BEYOND.");
        EmptyLand x = ofAllKinds();
        for (int error = Due.KIND; error <= Due.BEYOND; error++) {
            due.is("any number", x.voice(0, 0, error), error);
        }
        for (int k = 1; k <= 5; k++) {
            due.is("no ERROR", x.told(k), 0);
        }
        due.areErrors("VOICE", Due.BEYOND, x.voice(0, -1, 0), x.voice(0, 4, 0), x.voice(0, Due.MIN, 0));
        due.areErrors("THING", Due.BEYOND, x.voice(-1, 0, 0), x.voice(10, 0, 0), x.voice(Due.MAX, 0, 0));
        due.is("of a shut one", x.open(0, 0) * 10 + x.voice(0, 0, 3), 13);
    }

    private static void trace() {
        due.says(37, "THE TRACE's i-th. NONE: there is none such.");
        EmptyLand x = ofAllKinds();
        due.areErrors("none yet", Due.NONE, x.trace(0), x.trace(-1), x.trace(39), x.trace(40), x.trace(Due.MIN), x.trace(Due.MAX));
        x.voice(0, 1, 0);
        due.is("0", x.trace(0), 11);
        due.is("1", x.trace(1), 10);
        due.areErrors("none such", Due.NONE, x.trace(2), x.trace(-1));
        due.is("told", x.told(2), 8);
        due.is("never BEYOND", x.told(1), 0);
    }

    private static void sheet() {
        due.says(38, "A SHEET has n numbers, all 0, of so many bits (8, 16, 32; 0: it is missing, n doesn't matter): 1.");
        for (int bits = 8; bits <= 32; bits *= 2) {
            EmptyLand x = new EmptyLand();
            due.is("four", x.sheet(2, bits, 4), 1);
            due.are("all 0", fours(x, 2, 1), 0, 0, 0, 0);
            Lands.put(x, 2, 1, 2, 3, 4);
            due.are("as put", fours(x, 2, 1), 1, 2, 3, 4);
            due.is("eight", x.sheet(2, bits, 8), 1);
            due.are("all 0 again", fours(x, 2, 2), 0, 0, 0, 0, 0, 0, 0, 0);
            due.is("none", x.sheet(2, bits, 0), 1);
            due.is("it has none", x.put(2, 0, 0), Due.BEYOND);
            int[] any = {0, -1, 41, Due.MIN, Due.MAX};
            for (int n : any) {
                x.sheet(2, bits, 4);
                due.is("n doesn't matter", x.sheet(2, 0, n), 1);
                due.is("missing", x.put(2, 0, 0), Due.NONE);
                due.is("missing again", x.sheet(2, 0, n), 1);
            }
        }
    }

    private static void sheetErrors() {
        due.says(38, "BEYOND. STATE: n is below 0 (ahead of BEYOND of n).");
        EmptyLand x = new EmptyLand();
        x.sheet(0, 16, 4);
        Lands.put(x, 0, 5, 6, 7, 8);
        due.areErrors("no SHEET", Due.BEYOND, x.sheet(-1, 8, 4), x.sheet(4, 8, 4), x.sheet(-1, 0, 4), x.sheet(4, 0, 4));
        due.areErrors("bits", Due.BEYOND, x.sheet(0, 7, 4), x.sheet(0, 9, 4), x.sheet(0, 15, 4), x.sheet(0, 17, 4),
            x.sheet(0, 31, 4), x.sheet(0, 33, 4), x.sheet(0, 64, 4), x.sheet(0, 1, 4), x.sheet(0, -8, 4), x.sheet(0, 24, 4));
        due.areErrors("n", Due.BEYOND, x.sheet(0, 8, 41), x.sheet(0, 16, Due.MAX));
        due.areErrors("n below 0", Due.STATE, x.sheet(0, 8, -1), x.sheet(0, 16, -1), x.sheet(0, 32, Due.MIN));
        due.areErrors("BEYOND of SHEET and bits first", Due.BEYOND, x.sheet(4, 8, -1), x.sheet(-1, 8, -1), x.sheet(0, 7, -1));
        due.are("it stays", fours(x, 0, 1), 5, 6, 7, 8);
    }

    private static void put() {
        due.says(39, "Number i of a SHEET becomes v (its lowest bits): 1.");
        int[][] of8 = {{0, 0}, {127, 127}, {255, -1}, {128, -1}, {256, 0}, {383, 127}, {-129, 127}, {-128, -1}, {Due.MAX, -1},
            {Due.MIN, 0}};
        int[][] of16 = {{32767, 32767}, {32768, -1}, {65535, -1}, {65536, 0}, {98303, 32767}, {-32769, 32767}, {-32768, -1}};
        int[][] of32 = {{99999, 99999}, {100000, -1}, {65536, 65536}, {-1, -1}, {Due.MIN, -1}, {Due.MAX, -1}};
        putEach(8, of8);
        putEach(16, of16);
        putEach(32, of32);
    }

    /** Pairs of what is put and what comes as YOUNG; -1: none comes, for what is there is below 0 or too much. */
    private static void putEach(int bits, int[][] pairs) {
        for (int[] pair : pairs) {
            EmptyLand x = new EmptyLand();
            x.sheet(1, bits, 4);
            due.is("put " + pair[0], x.put(1, 1, pair[0]), 1);
            due.is("as of " + bits + ": " + pair[0], x.villages(1), pair[1] < 0 ? 0 : 1);
            due.is("YOUNG of " + pair[0], x.people(0, 0), pair[1] < 0 ? Due.BEYOND : pair[1]);
        }
    }

    private static void putErrors() {
        due.says(39, "BEYOND: no such SHEET. NONE: it is missing. BEYOND: no such number.");
        EmptyLand x = new EmptyLand();
        x.sheet(1, 8, 4);
        due.areErrors("no such SHEET", Due.BEYOND, x.put(-1, 0, 0), x.put(4, 0, 0), x.put(4, -1, 0), x.put(Due.MIN, 0, 0));
        due.areErrors("it is missing", Due.NONE, x.put(0, 0, 0), x.put(0, -1, 0), x.put(3, 40, 0));
        due.areErrors("no such number", Due.BEYOND, x.put(1, -1, 9), x.put(1, 4, 9), x.put(1, Due.MIN, 9), x.put(1, Due.MAX, 9));
        due.is("the last", x.put(1, 3, 9), 1);
        due.is("the first", x.put(1, 0, 9), 1);
        due.are("no other", fours(x, 1, 1), 9, 0, 0, 9);
    }

    /** SHEETS 0 (of 8 numbers, 1 to 8) and 1 (of 4) of 16 bits, 2 (of 4) of 8 bits; 3 is missing. */
    private static EmptyLand withSheets() {
        EmptyLand x = new EmptyLand();
        x.sheet(0, 16, 8);
        x.sheet(1, 16, 4);
        x.sheet(2, 8, 4);
        return Lands.put(x, 0, 1, 2, 3, 4, 5, 6, 7, 8);
    }

    private static void move() {
        due.says(40, "n numbers of a SHEET, from number i on, come to another one (or the same), from its number j on, "
            + "as they all were: n.");
        EmptyLand x = withSheets();
        due.is("4", x.move(0, 4, 1, 0, 4), 4);
        due.are("there", fours(x, 1, 1), 5, 6, 7, 8);
        due.is("1", x.move(0, 0, 1, 3, 1), 1);
        due.is("2, back", x.move(1, 2, 0, 0, 2), 2);
        due.are("there", fours(x, 1, 1), 5, 6, 7, 1);
        due.are("here", fours(x, 0, 2), 7, 1, 3, 4, 5, 6, 7, 8);
        due.is("none", x.move(0, 0, 1, 0, 0), 0);
        due.are("as it was", fours(x, 1, 1), 5, 6, 7, 1);
        x.sheet(3, 16, 8);
        due.is("all eight", x.move(0, 0, 3, 0, 8), 8);
        due.are("all eight", fours(x, 3, 2), 7, 1, 3, 4, 5, 6, 7, 8);
    }

    private static void moveOntoItself() {
        due.says(40, "(or the same), from its number j on, as they all were: n.");
        EmptyLand x = withSheets();
        due.is("on by one", x.move(0, 0, 0, 1, 7), 7);
        due.are("as they all were", fours(x, 0, 2), 1, 1, 2, 3, 4, 5, 6, 7);
        due.is("back by two", x.move(0, 2, 0, 0, 6), 6);
        due.are("as they all were", fours(x, 0, 2), 2, 3, 4, 5, 6, 7, 6, 7);
        due.is("onto its place", x.move(0, 0, 0, 0, 8), 8);
        due.are("as they all were", fours(x, 0, 2), 2, 3, 4, 5, 6, 7, 6, 7);
    }

    private static void moveErrors() {
        due.says(40, "BEYOND: no such SHEET. NONE: one is missing. KIND: they are of unlike bits.");
        EmptyLand x = withSheets();
        due.areErrors("no such SHEET", Due.BEYOND, x.move(-1, 0, 0, 0, 0), x.move(4, 0, 0, 0, 0), x.move(0, 0, -1, 0, 0),
            x.move(0, 0, 4, 0, 0), x.move(4, 0, 3, 0, 0), x.move(3, 0, 4, 0, 0), x.move(Due.MIN, 0, Due.MAX, 0, 0));
        due.areErrors("one is missing", Due.NONE, x.move(3, 0, 0, 0, 0), x.move(0, 0, 3, 0, 0), x.move(3, 0, 3, 0, 0),
            x.move(3, -1, 0, 0, 1), x.move(0, 0, 3, 0, -1));
        due.areErrors("unlike bits", Due.KIND, x.move(0, 0, 2, 0, 0), x.move(2, 0, 0, 0, 0), x.move(0, -1, 2, 0, 0),
            x.move(2, 0, 1, 5, 0), x.move(2, 0, 0, 0, -1));
        due.are("as they were", fours(x, 0, 2), 1, 2, 3, 4, 5, 6, 7, 8);
        due.are("as they were", fours(x, 1, 1), 0, 0, 0, 0);
    }

    private static void moveBeyond() {
        due.says(40, "BEYOND: n, i, or j is below 0, or they don't stand there (n 0, too).");
        EmptyLand x = withSheets();
        due.areErrors("below 0", Due.BEYOND, x.move(0, 0, 1, 0, -1), x.move(0, -1, 1, 0, 1), x.move(0, 0, 1, -1, 1),
            x.move(0, -1, 1, 0, 0), x.move(0, 0, 1, -1, 0), x.move(0, -1, 1, 0, 2), x.move(0, 0, 1, 0, Due.MIN));
        due.areErrors("not there", Due.BEYOND, x.move(0, 8, 1, 0, 1), x.move(0, 7, 1, 0, 2), x.move(0, 5, 1, 0, 4),
            x.move(0, 0, 1, 4, 1), x.move(0, 0, 1, 3, 2), x.move(0, 0, 1, 1, 4), x.move(0, 0, 1, 0, 5), x.move(0, 0, 0, 0, 9));
        due.areErrors("n 0, too", Due.BEYOND, x.move(0, 9, 1, 0, 0), x.move(0, 0, 1, 5, 0), x.move(0, 40, 0, 0, 0));
        due.areErrors("far off", Due.BEYOND, x.move(0, Due.MAX, 1, 0, 1), x.move(0, 1, 1, 0, Due.MAX),
            x.move(0, Due.MAX, 1, Due.MAX, Due.MAX), x.move(0, Due.MIN, 1, Due.MIN, Due.MIN), x.move(0, 0, 1, Due.MAX, 1));
        due.is("n 0 right behind the last", x.move(0, 8, 1, 4, 0), 0);
        due.are("as they were", fours(x, 0, 2), 1, 2, 3, 4, 5, 6, 7, 8);
        due.is("up to the last of both", x.move(0, 5, 1, 1, 3), 3);
        due.are("come", fours(x, 1, 1), 0, 6, 7, 8);
    }

    private static void image() {
        due.says(41, "All (but SHEETS, THE TRACE, what told() tells, and how often this was done) is kept as an IMAGE,");
        EmptyLand x = Lands.of(0, 1, 2, 3, 1, 4, 5, 6);
        x.thing(10, 7, 8, 2);
        x.thing(20, 7, 8, 2);
        x.open(1, 0);
        x.promise(0, 5);
        x.mend(0, 1, 1);
        x.pace(4);
        for (int rate = 0; rate < 6; rate++) {
            x.rate(rate, 10 + rate);
        }
        for (int use = 0; use < 3; use++) {
            Due.text(x, use, "1");
        }
        Due.feed(x, "1+");
        x.tell(1);
        x.seed(-5);
        x.image();
        changeAll(x);
        due.is("NOW", x.restore(), 0);
        int[] counts = {0, 2, 2, 1, 15, 2, 1};
        for (int what = 0; what < counts.length; what++) {
            due.is("count " + what, x.count(what), counts[what]);
        }
        due.is("z", x.count(8), -5);
        due.are("PEOPLE", Lands.sorts(x, 0), 1, 2, 3);
        due.is("WAY, PACE, MENDED", x.way(0, 1), 2);
        due.is("PROMISE", x.ofThing(0, 6), 5);
        due.is("what is open", x.left(0, 2), 1);
        due.is("whom it SERVES", x.ofThing(0, 9), 3);
        due.is("COMFORT", x.comfort(1), 5);
        for (int use = 0; use < 3; use++) {
            due.is("TEXT", x.law(use, 0, 0, 0), 1);
        }
        Due.feed(x, "8");
        due.is("THE TAPE", x.text(2) * 100 + x.law(2, 0, 0, 0), 109);
        x.tell(0);
        due.is("who waits", x.check(0), 0);
        for (int rate = 0; rate < 6; rate++) {
            due.is("RATE " + rate, x.rate(rate, 0), 10 + rate);
        }
    }

    private static void changeAll(EmptyLand x) {
        x.become(0, 0, 99);
        x.village(9, 9, 9, 9);
        x.mend(0, 1, 0);
        x.pace(9);
        x.thing(60, 5, 5, 5);
        x.open(1, 1);
        x.open(0, 0);
        x.promise(0, 9);
        for (int rate = 0; rate < 6; rate++) {
            x.rate(rate, 20 - rate);
        }
        x.text(0);
        for (int use = 0; use < 3; use++) {
            Due.text(x, use, "0");
        }
        Due.feed(x, "77");
        x.tell(2);
        x.made(1);
        x.years(3);
    }

    private static void imageInPlaceOfOne() {
        due.says(41, "in place of one ahead: how often that was done.");
        EmptyLand x = new EmptyLand();
        for (int i = 1; i <= 4; i++) {
            x.years(1);
            due.is("how often", x.image(), i);
            x.years(1);
            due.is("the latest", x.restore(), i);
        }
        EmptyLand y = new EmptyLand();
        Lands.upTo(y, 9);
        due.is("1", y.image(), 1);
        due.is("2", y.image(), 2);
        due.is("after that", y.restore(), 9);
        due.is("3", y.image(), 3);
    }

    private static void imageLeavesOut() {
        due.says(41, "(but SHEETS, THE TRACE, what told() tells, and how often this was done)");
        EmptyLand x = ofAllKinds();
        x.sheet(0, 16, 4);
        x.voice(0, 3, 1);
        x.haven();
        x.people(9, 0);
        x.image();
        x.put(0, 0, 7);
        x.sheet(1, 8, 4);
        x.voice(0, 0, 1);
        x.people(9, 0);
        x.image();
        x.restore();
        due.are("SHEETS", fours(x, 0, 1), 7, 0, 0, 0);
        due.are("SHEETS", fours(x, 1, 1), 0, 0, 0, 0);
        due.is("THE TRACE", x.count(7) * 100 + x.trace(0), 110);
        due.is("what told() tells", x.told(1), 2);
        due.is("how often", x.image(), 3);
    }

    private static void restore() {
        due.says(42, "All is as the IMAGE has it, which stays: NOW. NONE: there is none.");
        EmptyLand x = Lands.still(0, 10, 0, 0);
        due.is("none", x.restore(), Due.NONE);
        x.years(4);
        x.image();
        for (int i = 0; i < 3; i++) {
            x.become(0, 0, i);
            x.thing(0, i, 0, 0);
            x.years(5);
            due.is("NOW", x.restore(), 4);
            due.is("VILLAGES", x.people(0, 0), 10);
            due.is("THINGS", x.count(2), 0);
        }
        due.is("at once again", x.restore(), 4);
        EmptyLand empty = new EmptyLand();
        empty.image();
        Lands.upTo(empty, 199);
        empty.made(8);
        due.is("as at first", empty.restore(), 0);
        due.is("no VILLAGES", empty.count(1), 0);
        due.is("z", empty.count(8), 1);
    }

    private static void tell() {
        due.says(43, "One more number waits: how many. FULL: 20 wait.");
        EmptyLand x = new EmptyLand();
        for (int i = 1; i <= 20; i++) {
            due.is("how many", x.tell(i % 3 == 0 ? Due.MIN : i), i);
        }
        due.is("a 21st", x.tell(0), Due.FULL);
        due.is("20 wait", x.count(6), 20);
        x.check(0);
        due.is("one", x.tell(0), 1);
    }

    private static int check(EmptyLand x, int n, int... numbers) {
        for (int number : numbers) {
            x.tell(number);
        }
        int answer = x.check(n);
        due.is("none wait then", x.count(6), 0);
        return answer;
    }

    private static void check() {
        due.says(44, "The numbers that wait (none do then) are all VILLAGES by their PEOPLE AHEAD by n, the most first, "
            + "of like ones the least number: 0; else 1 and the place (from 0) of the first that isn't so, or is missing.");
        EmptyLand x = new EmptyLand();
        due.is("none of none", check(x, 0), 0);
        due.is("one of none", check(x, 0, 0), 1);
        due.is("20 of none", check(x, 0, new int[20]), 1);
        x = Lands.still(0, 5, 0, 0, 3030, 0, 9, 0, 0, 0, 0, 5, 0, 2, 2, 1);
        due.is("all, like ones by number", check(x, 0, 1, 0, 2, 3), 0);
        due.is("like ones, not the least first", check(x, 0, 1, 2, 0, 3), 2);
        due.is("like ones, the last two", check(x, 0, 1, 0, 3, 2), 3);
        due.is("the least first", check(x, 0, 0, 2, 3, 1), 1);
        due.is("none told", check(x, 0), 1);
        due.is("one told", check(x, 0, 1), 2);
        due.is("three told", check(x, 0, 1, 0, 2), 4);
        due.is("one too many", check(x, 0, 1, 0, 2, 3, 3), 5);
        due.is("one too many, no VILLAGE", check(x, 0, 1, 0, 2, 3, 4), 5);
        due.is("one of them twice", check(x, 0, 1, 1, 2, 3), 2);
        due.is("-1", check(x, 0, 1, 0, 2, -1), 4);
        due.is("no VILLAGE", check(x, 0, Due.MAX, 0, 2, 3), 1);
        Due.text(x, Lands.GO, "(n=9)*100");
        due.is("AHEAD: 4 of 9 come to 0", check(x, 1, 0, 2, 3, 1), 0);
        due.is("AHEAD by 40: all of 9 go on", check(x, 40, 2, 3, 0, 1), 0);
        EmptyLand eight = Lands.alike(8, 0);
        due.is("eight", check(eight, 40, 0, 1, 2, 3, 4, 5, 6, 7), 0);
        due.is("seven of eight", check(eight, 40, 0, 1, 2, 3, 4, 5, 6), 8);
    }

    private static void checkBeyond() {
        due.says(44, "BEYOND (none wait then, too).");
        EmptyLand x = Lands.alike(1, 0);
        int[] wrong = {-1, 41, Due.MIN, Due.MAX};
        for (int n : wrong) {
            due.is("n " + n, check(x, n, 0), Due.BEYOND);
            due.is("none wait: one is missing", x.check(0), 1);
        }
        due.is("0", check(x, 0, 0), 0);
        due.is("40", check(x, 40, 0), 0);
    }

    private static void count() {
        due.says(45, "0 NOW, 1 VILLAGES, 2 THINGS, 3 open ones, 4 COIN, 5 bytes of THE TAPE, 6 numbers that wait, "
            + "7 BODIES in THE TRACE, 8 z (any number). BEYOND.");
        EmptyLand x = Lands.alike(5, 4);
        x.open(2, 0);
        x.years(2);
        x.rate(5, -6);
        Due.feed(x, "1234567");
        for (int i = 0; i < 8; i++) {
            x.tell(i);
        }
        x.thing(50, 0, 0, 0);
        x.voice(4, 3, 0);
        x.seed(Due.FULL);
        int[] want = {Due.BEYOND, 2, 5, 5, 4, -6, 7, 8, 8, Due.FULL, Due.BEYOND};
        for (int what = -1; what <= 9; what++) {
            due.is("what " + what, x.count(what), want[what + 1]);
        }
        due.is("any z is no ERROR", x.told(4), 0);
        due.areErrors("what", Due.BEYOND, x.count(Due.MIN), x.count(Due.MAX));
        due.is("told", x.told(1), 4);
    }

    private static void told() {
        due.says(46, "How many acts have answered an ERROR LOW - k (k 1 .. 5); BEYOND: another k (counted, too).");
        EmptyLand x = Lands.alike(1, 1);
        for (int i = 1; i <= 3; i++) {
            x.people(1, 0);
            x.restore();
            x.sheet(0, 8, -1);
            x.as(0, 1);
            due.is("BEYOND", x.told(1), i);
            due.is("NONE", x.told(2), i);
            due.is("STATE", x.told(3), i);
            due.is("FULL", x.told(4), 0);
            due.is("KIND", x.told(5), i);
        }
        x.made(8);
        due.is("FULL", x.told(4), 1);
        due.areErrors("another k", Due.BEYOND, x.told(0), x.told(6), x.told(-1), x.told(Due.MIN), x.told(Due.MAX));
        due.is("counted, too", x.told(1), 8);
        due.is("told() itself isn't", x.told(1), 8);
    }
}
