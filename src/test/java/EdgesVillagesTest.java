/** Each sentence of Terms 1 on years, villages and ways, and of promises 1 to 9, with its edges and what is beside them. */
final class EdgesVillagesTest {
    private static final Due due = new Due();

    public static void main(String[] args) {
        newObject();
        yearsAndNow();
        atMostEight();
        places();
        peopleOfSorts();
        peopleAreHeld();
        ways();
        halfWays();
        village();
        people();
        become();
        villages();
        villagesEnd();
        villagesOfNoSheet();
        made();
        madeFull();
        pace();
        way();
        mend();
        mendOfMany();
        due.end();
    }

    private static void newObject() {
        due.says(1, "All as at first; no VILLAGES, THINGS.");
        EmptyLand x = new EmptyLand();
        due.is("VILLAGES", x.count(1), 0);
        due.is("THINGS", x.count(2), 0);
        due.is("no VILLAGE 0", x.people(0, 3), Due.BEYOND);
        due.is("no THING 0", x.ofThing(0, 0), Due.BEYOND);
        due.is("open THINGS", x.count(3), 0);
        due.is("THE TAPE", x.count(5), 0);
        due.is("who waits", x.count(6), 0);
        due.is("THE TRACE", x.count(7), 0);
        due.is("no TEXT of SHUT", x.law(0, 1, 1, 9), 0);
        due.is("no TEXT of GO", x.law(1, 0, 0, 0), 12);
        due.is("no TEXT of COME", x.law(2, 20, 20, 20), 0);
        due.is("no IMAGE", x.restore(), Due.NONE);
        due.is("how often", x.image(), 1);
        EmptyLand y = new EmptyLand();
        x.village(0, 1, 1, 1);
        due.is("objects share nothing", y.count(1), 0);
    }

    private static void yearsAndNow() {
        due.says(0, "1. YEARS are 0 to 199; NOW is one (0 at first).");
        EmptyLand x = new EmptyLand();
        due.is("NOW", x.count(0), 0);
        x = Lands.upTo(x, 198);
        due.is("199", x.years(1), 199);
        due.is("200", x.years(1), Due.STATE);
        due.is("NOW", x.count(0), 199);
    }

    private static void atMostEight() {
        due.says(0, "VILLAGES 0, 1, .. (at most 8)");
        EmptyLand x = new EmptyLand();
        for (int i = 0; i < 8; i++) {
            due.is("VILLAGE " + i, x.village(i, 0, 0, 0), i);
        }
        due.is("a ninth", x.village(8, 0, 0, 0), Due.FULL);
        due.is("the eighth", x.people(7, 4), 7);
        due.is("no ninth", x.people(8, 4), Due.BEYOND);
    }

    private static void places() {
        due.says(0, "at a place (100 * x and y, 0 to 30 each)");
        int[] good = {0, 1, 30, 100, 130, 3000, 3001, 3030};
        for (int i = 0; i < good.length; i++) {
            EmptyLand x = Lands.of(good[i], 0, 0, 0);
            due.is("place " + good[i], x.people(0, 4), good[i]);
        }
        int[] bad = {-1, -100, -3030, 31, 99, 131, 199, 2931, 3031, 3099, 3100, 3130, 9999, Due.MIN, Due.MAX};
        for (int i = 0; i < bad.length; i++) {
            due.is("place " + bad[i], new EmptyLand().village(bad[i], 0, 0, 0), Due.BEYOND);
        }
    }

    private static void peopleOfSorts() {
        due.says(0, "with PEOPLE of SORTS 0 YOUNG, 1 GROWN, 2 OLD (0 to 99999 each");
        for (int sort = 0; sort < 3; sort++) {
            int[] most = new int[3];
            int[] more = new int[3];
            int[] less = new int[3];
            most[sort] = 99999;
            more[sort] = 100000;
            less[sort] = -1;
            EmptyLand x = new EmptyLand();
            due.is("99999", x.village(0, most[0], most[1], most[2]), 0);
            due.are("SORTS", Lands.sorts(x, 0), most);
            due.is("100000", x.village(0, more[0], more[1], more[2]), Due.BEYOND);
            due.is("-1", x.village(0, less[0], less[1], less[2]), Due.BEYOND);
            due.is("0", x.village(0, 0, 0, 0), 1);
        }
    }

    private static void peopleAreHeld() {
        due.says(0, "what would be more is held there).");
        EmptyLand x = Lands.still(0, 0, 99000, 0);
        Due.text(x, Lands.COME, "1");
        due.is("990 more are 99990", x.then(1, 0, 1), 99990);
        x.become(0, 1, 99009);
        due.is("990 more are 99999", x.then(1, 0, 1), 99999);
        x.become(0, 1, 99010);
        due.is("990 more would be 100000", x.then(1, 0, 1), 99999);
        due.is("all SORTS together aren't held", Lands.of(0, 99999, 99999, 99999).people(0, 3), 299997);
    }

    private static void ways() {
        due.says(0, "WAY of two: how far x and y are apart, both together, times PACE (1 to 9; 2 at first)");
        EmptyLand x = Lands.of(0, 0, 0, 0, 3030, 0, 0, 0, 130, 0, 0, 0, 3001, 0, 0, 0);
        due.is("the longest", x.way(0, 1), 120);
        due.is("1 and 30", x.way(0, 2), 62);
        due.is("30 and 1", x.way(0, 3), 62);
        due.is("29 and 29", x.way(2, 3), 116);
        due.is("29 and 0", x.way(1, 2), 58);
        due.is("0 and 29", x.way(3, 1), 58);
        x.pace(1);
        due.is("PACE 1", x.way(0, 1), 60);
        x.pace(9);
        due.is("PACE 9", x.way(0, 1), 540);
        due.is("to itself", x.way(1, 1), 0);
    }

    private static void halfWays() {
        due.says(0, "half of that, if it is MENDED.");
        EmptyLand x = Lands.of(0, 0, 0, 0, 1, 0, 0, 0, 2, 0, 0, 0, 0, 0, 0, 0);
        x.pace(1);
        for (int other = 1; other < 4; other++) {
            x.mend(0, other, 1);
        }
        due.is("half of 1, cut", x.way(0, 1), 0);
        due.is("half of 2", x.way(2, 0), 1);
        due.is("half of 0", x.way(0, 3), 0);
        due.is("not MENDED", x.way(1, 2), 1);
        x.pace(3);
        due.is("half of 3, not thrice half of 1", x.way(0, 1), 1);
    }

    private static void village() {
        due.says(2, "A VILLAGE with YOUNG, GROWN, OLD: its number. BEYOND. FULL.");
        EmptyLand x = new EmptyLand();
        due.is("the first", x.village(1203, 4, 5, 6), 0);
        due.is("the second", x.village(1203, 7, 8, 9), 1);
        due.are("the first's", Lands.sorts(x, 0), 4, 5, 6);
        due.are("the second's", Lands.sorts(x, 1), 7, 8, 9);
        EmptyLand full = Lands.alike(8, 0);
        due.is("FULL", full.village(0, 0, 0, 0), Due.FULL);
        due.is("BEYOND first", full.village(31, 0, 0, 0), Due.BEYOND);
        due.is("BEYOND first", full.village(0, 0, 0, 100000), Due.BEYOND);
    }

    private static void people() {
        due.says(3, "PEOPLE of a VILLAGE of a SORT (3: all; 4: its place). BEYOND.");
        EmptyLand x = Lands.of(1530, 1, 20, 300);
        int[] want = {Due.BEYOND, 1, 20, 300, 321, 1530, Due.BEYOND};
        for (int sort = -1; sort <= 5; sort++) {
            due.is("SORT " + sort, x.people(0, sort), want[sort + 1]);
        }
        due.areErrors("VILLAGE", Due.BEYOND, x.people(-1, 0), x.people(1, 0), x.people(Due.MAX, 4), x.people(Due.MIN, 4));
    }

    private static void become() {
        due.says(4, "PEOPLE of a VILLAGE of a SORT become v: what they were. BEYOND.");
        for (int sort = 0; sort < 3; sort++) {
            EmptyLand x = Lands.of(0, 7, 7, 7);
            due.is("99999", x.become(0, sort, 99999), 7);
            due.areErrors("v", Due.BEYOND, x.become(0, sort, 100000), x.become(0, sort, -1), x.become(0, sort, Due.MIN));
            due.is("they stay", x.become(0, sort, 0), 99999);
            due.is("0", x.people(0, sort), 0);
            due.is("others stay", x.people(0, 3), 14);
        }
        EmptyLand x = Lands.of(0, 7, 7, 7);
        due.areErrors("SORT", Due.BEYOND, x.become(0, -1, 0), x.become(0, 3, 0), x.become(0, 4, 0));
        due.areErrors("VILLAGE", Due.BEYOND, x.become(-1, 0, 0), x.become(1, 0, 0));
        due.is("nobody became", x.people(0, 3), 21);
    }

    private static void villages() {
        due.says(5, "VILLAGES from a SHEET: fours (place, YOUNG, GROWN, OLD), from number 0 on,");
        for (int bits = 8; bits <= 32; bits *= 2) {
            EmptyLand x = Lands.of(0, 0, 0, 0);
            x.sheet(1, bits, 8);
            Lands.put(x, 1, 30, 1, 2, 3, 4, 5, 6, 7);
            due.is("two", x.villages(1), 2);
            due.is("VILLAGES", x.count(1), 3);
            due.is("the first's place", x.people(1, 4), 30);
            due.are("the first's", Lands.sorts(x, 1), 1, 2, 3);
            due.is("the second's place", x.people(2, 4), 4);
            due.are("the second's", Lands.sorts(x, 2), 5, 6, 7);
            due.is("the SHEET stays", x.villages(1), 2);
        }
    }

    private static void villagesEnd() {
        due.says(5, "up to the first that isn't as told, or isn't whole, or has no room: how many came.");
        int[][] wrong = {{31, -1}, {-1, 100000}, {-1, 100000}, {-1, 100000}};
        int[] good = {30, 99999, 99999, 99999};
        for (int at = 0; at < 4; at++) {
            for (int bad : wrong[at]) {
                EmptyLand x = new EmptyLand();
                x.sheet(0, 32, 12);
                Lands.put(x, 0, 0, 0, 0, 0, 30, 99999, 99999, 99999, 0, 0, 0, 0);
                x.put(0, 4 + at, bad);
                due.is("the second isn't as told: the third doesn't come", x.villages(0), 1);
                due.is("VILLAGES", x.count(1), 1);
                x.put(0, 4 + at, good[at]);
                due.is("it is as told", x.villages(0), 3);
            }
        }
        for (int size = 0; size <= 9; size++) {
            EmptyLand x = new EmptyLand();
            x.sheet(0, 8, size);
            due.is("whole fours of " + size, x.villages(0), size / 4);
        }
        for (int there = 5; there <= 8; there++) {
            EmptyLand x = Lands.alike(there, 0);
            x.sheet(0, 8, 8);
            due.is("room behind " + there, x.villages(0), Math.min(2, 8 - there));
            due.is("no ERROR", x.told(4), 0);
        }
    }

    private static void villagesOfNoSheet() {
        due.says(5, "BEYOND: no such SHEET. NONE: it is missing.");
        EmptyLand x = new EmptyLand();
        due.is("-1", x.villages(-1), Due.BEYOND);
        due.is("4", x.villages(4), Due.BEYOND);
        for (int sheet = 0; sheet < 4; sheet++) {
            due.is("missing", x.villages(sheet), Due.NONE);
            x.sheet(sheet, 8, 0);
            due.is("of no numbers", x.villages(sheet), 0);
            x.sheet(sheet, 0, 0);
            due.is("missing again", x.villages(sheet), Due.NONE);
        }
    }

    private static void made() {
        due.says(6, "n (1 to 8) VILLAGES come, each by five draws: x, y (the rest by 31), YOUNG (by 100), "
            + "GROWN (by 300), OLD (by 200): how many there are. BEYOND.");
        int[] seeds = {1, 0, -1, Due.MIN, Due.MAX, 123456789};
        for (int seed : seeds) {
            EmptyLand x = Lands.of(0, 0, 0, 0);
            x.seed(seed);
            due.is("there are", x.made(7), 8);
            int z = seed;
            for (int village = 1; village < 8; village++) {
                int[] drawn = new int[5];
                int[] by = {31, 31, 100, 300, 200};
                for (int i = 0; i < 5; i++) {
                    z = z * 1103515245 + 12345;
                    drawn[i] = (z >>> 8) % by[i];
                }
                due.is("place", x.people(village, 4), 100 * drawn[0] + drawn[1]);
                due.are("SORTS", Lands.sorts(x, village), drawn[2], drawn[3], drawn[4]);
            }
            due.is("z", x.count(8), z);
        }
        EmptyLand x = new EmptyLand();
        due.areErrors("n", Due.BEYOND, x.made(0), x.made(9), x.made(-1), x.made(Due.MAX), x.made(Due.MIN));
        due.is("1", x.made(1), 1);
        due.is("8", new EmptyLand().made(8), 8);
    }

    private static void madeFull() {
        due.says(6, "FULL: they have no room (none comes, z stays).");
        for (int there = 1; there <= 8; there++) {
            EmptyLand x = Lands.alike(there, 0);
            due.is("one too many", x.made(9 - there), Due.FULL);
            due.is("none comes", x.count(1), there);
            due.is("z stays", x.count(8), 1);
            due.is("BEYOND first", x.made(9), Due.BEYOND);
            if (there < 8) {
                due.is("just as many", x.made(8 - there), 8);
            }
        }
    }

    private static void pace() {
        due.says(7, "PACE becomes v: what it was. BEYOND.");
        EmptyLand x = Lands.of(0, 0, 0, 0, 1, 0, 0, 0);
        due.is("1", x.pace(1), 2);
        due.areErrors("PACE", Due.BEYOND, x.pace(0), x.pace(10), x.pace(-1), x.pace(Due.MIN), x.pace(Due.MAX));
        due.is("it stays", x.way(0, 1), 1);
        due.is("9", x.pace(9), 1);
        due.is("so it is", x.way(0, 1), 9);
        due.is("what it was", x.pace(2), 9);
    }

    private static void way() {
        due.says(8, "WAY. BEYOND.");
        EmptyLand x = Lands.of(0, 0, 0, 0, 3, 0, 0, 0);
        due.is("there", x.way(0, 1), 6);
        due.is("back", x.way(1, 0), 6);
        due.areErrors("VILLAGES", Due.BEYOND, x.way(-1, 0), x.way(0, -1), x.way(2, 0), x.way(0, 2), x.way(2, 2));
        due.is("none at all", new EmptyLand().way(0, 0), Due.BEYOND);
    }

    private static void mend() {
        due.says(9, "The WAY of two is MENDED (1), or not (0): what was so. BEYOND: also of one and the same.");
        EmptyLand x = Lands.of(0, 0, 0, 0, 3, 0, 0, 0);
        due.is("not yet, and not now", x.mend(0, 1, 0), 0);
        due.is("now", x.mend(0, 1, 1), 0);
        due.is("from the other side", x.mend(1, 0, 1), 1);
        due.areErrors("is", Due.BEYOND, x.mend(0, 1, -1), x.mend(0, 1, 2), x.mend(0, 1, Due.MIN));
        due.areErrors("VILLAGES", Due.BEYOND, x.mend(-1, 0, 0), x.mend(2, 0, 0), x.mend(0, -1, 0), x.mend(0, 2, 0));
        due.areErrors("one and the same", Due.BEYOND, x.mend(0, 0, 0), x.mend(1, 1, 1), x.mend(1, 1, 0));
        due.is("it stays", x.way(0, 1), 3);
        due.is("no more, from the other side", x.mend(1, 0, 0), 1);
        due.is("whole", x.way(0, 1), 6);
        due.is("none is", x.mend(0, 1, 0), 0);
    }

    private static void mendOfMany() {
        due.says(9, "The WAY of two is MENDED (1), or not (0): what was so.");
        EmptyLand x = new EmptyLand();
        for (int i = 0; i < 8; i++) {
            x.village(100 * i + i, 0, 0, 0);
        }
        boolean[][] mended = new boolean[8][8];
        // Each step changes one WAY; by and by all are MENDED, and then not again.
        for (int step = 0; step < 60; step++) {
            int one = step * 5 % 8;
            int other = (one + 1 + step * 3 % 7) % 8;
            int is = step < 40 ? 1 : 0;
            due.is("what was so", x.mend(one, other, is), mended[one][other] ? 1 : 0);
            mended[one][other] = is == 1;
            mended[other][one] = is == 1;
            for (int i = 0; i < 7 && step % 12 == 11; i++) {
                for (int j = i + 1; j < 8; j++) {
                    int whole = 4 * (j - i);
                    due.is("WAY of " + i + " and " + j, x.way(j, i), mended[i][j] ? whole / 2 : whole);
                    due.is("WAY of " + j + " and " + i, x.way(i, j), mended[i][j] ? whole / 2 : whole);
                }
            }
        }
    }
}
