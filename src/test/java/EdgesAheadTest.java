/** Each sentence of Terms 4 on what lies ahead, with its edges and what is beside them. */
final class EdgesAheadTest {
    private static final Due due = new Due();
    private static final int SHUT = Lands.SHUT;
    private static final int GO = Lands.GO;
    private static final int COME = Lands.COME;

    public static void main(String[] args) {
        aheadIsAsIf();
        aheadBeyond199();
        leftIsAll();
        fallsAtLast();
        fallsForTheFirstTime();
        brokeAtLast();
        brokeForTheFirstTime();
        restAtLast();
        restOfAll();
        keepForSoMuch();
        keepOfTheFirstSix();
        keepOfOpenOnes();
        keepOfSeveral();
        whenOfYears();
        whenOfSeveral();
        edgeOfYoung();
        edgeOfItsVillage();
        edgeBehindYears();
        siteOfAllVillages();
        siteLikeTheFirst();
        roadOfAll();
        roadOfSeveral();
        due.end();
    }

    /** A land in which much happens, and what is there then. */
    private static EmptyLand busy(int seed) {
        EmptyLand x = new EmptyLand();
        x.seed(seed);
        x.made(5);
        for (int i = 0; i < 7; i++) {
            x.thing(10 * i + i % 5, 11 * i, 40 * i, 15 + 5 * i);
        }
        x.promise(3, 4);
        x.mend(0, 3, 1);
        Due.text(x, GO, "(3-s)*6-w+(n>200)");
        Due.text(x, COME, "w/5");
        return x;
    }

    private static void aheadIsAsIf() {
        due.says(0, "4. AHEAD by n years (0 to 40): as if so many years went by");
        for (int n = 0; n <= 40; n++) {
            EmptyLand x = busy(n);
            EmptyLand y = busy(n);
            if (n > 0) {
                y.years(n);
            }
            due.is("LEFT", x.left(n, 0), y.left(0, 0));
            due.is("COIN", x.left(n, 1), y.count(4));
            due.is("open THINGS", x.left(n, 2), y.left(0, 2));
            due.is("COMFORT", x.left(n, 3), y.left(0, 3));
            for (int village = 0; village < 5; village++) {
                for (int sort = 0; sort < 4; sort++) {
                    due.is("PEOPLE by " + n, x.then(n, village, sort), y.people(village, sort));
                }
            }
        }
    }

    private static void aheadBeyond199() {
        due.says(0, "(beyond YEAR 199, too) and nothing else were done.");
        EmptyLand x = Lands.upTo(Lands.still(0, 10, 10, 10), 199);
        x.rate(5, 0);
        x.thing(0, 0, 0, 0);
        Due.text(x, SHUT, "y=238");
        Due.text(x, GO, "!w*100");
        due.is("up to 239", x.left(40, 1), 4000);
        due.is("YEAR 237", x.left(39, 2), 1);
        due.is("YEAR 238", x.left(40, 2), 0);
        due.is("FALLS", x.falls(0, 40), 40);
        due.is("NOW stays", x.count(0), 199);
        due.is("COIN stays", x.count(4), 0);
        due.is("PEOPLE stay", x.people(0, 3), 30);
        due.is("what is open stays", x.ofThing(0, 5), 1);
    }

    private static void leftIsAll() {
        due.says(0, "LEFT: all PEOPLE then.");
        EmptyLand x = new EmptyLand();
        due.is("of no VILLAGES", x.left(40, 0), 0);
        for (int i = 1; i <= 8; i++) {
            x.village(0, 99999, 99999, 99999);
            due.is("of " + i, x.left(0, 0), 299997 * i);
        }
    }

    /** One of 100 goes each year, from so many down to 99; then what is asked for happens. */
    private static EmptyLand downTo99(int from, String go) {
        EmptyLand x = Lands.still(0, from, 0, 0);
        Due.text(x, GO, go);
        return x;
    }

    private static void fallsAtLast() {
        due.says(0, "FALLS of a VILLAGE: behind how many years it has no PEOPLE for the first time (0: now).");
        EmptyLand x = downTo99(138, "1+99*(n=99)");
        due.is("behind 40", x.falls(0, 40), 40);
        due.is("by 39", x.falls(0, 39), Due.NONE);
        x.become(0, 0, 139);
        due.is("behind 41", x.falls(0, 40), Due.NONE);
        x.become(0, 0, 99);
        due.is("behind 1", x.falls(0, 1), 1);
        due.is("by 0", x.falls(0, 0), Due.NONE);
        x.become(0, 0, 0);
        due.is("now", x.falls(0, 0), 0);
        for (int sort = 0; sort < 3; sort++) {
            x.become(0, sort, 1);
            due.is("one of any SORT", x.falls(0, 0), Due.NONE);
            x.become(0, sort, 0);
        }
    }

    private static void fallsForTheFirstTime() {
        due.says(0, "it has no PEOPLE for the first time");
        EmptyLand x = Lands.still(0, 5, 0, 0, 3030, 100, 0, 0);
        x.thing(0, 0, 0, 0);
        Due.text(x, GO, "100*(n=5)+(n=100)+50*(n=99)");
        due.is("none behind 1", x.then(1, 0, 3), 0);
        due.is("24 behind 2", x.then(2, 0, 3), 24);
        due.is("the first time", x.falls(0, 40), 1);
        due.is("now, for the first time", Lands.still(0, 0, 0, 0).falls(0, 40), 0);
    }

    private static void brokeAtLast() {
        due.says(0, "BROKE: behind how many COIN is below 0 for the first time (0: now).");
        EmptyLand x = Lands.still(0, 1, 1, 1);
        x.thing(0, 1, 0, 0);
        x.rate(4, 0);
        x.rate(5, 39);
        due.is("behind 40", x.broke(40), 40);
        due.is("by 39, when it is 0", x.broke(39), Due.NONE);
        x.rate(5, 40);
        due.is("behind 41", x.broke(40), Due.NONE);
        x.rate(5, 0);
        due.is("behind 1", x.broke(1), 1);
        due.is("0 isn't below 0", x.broke(0), Due.NONE);
        x.rate(5, -1);
        due.is("now", x.broke(0), 0);
        x.rate(4, 9999);
        due.is("now, though there will be more", x.broke(40), 0);
    }

    private static void brokeForTheFirstTime() {
        due.says(0, "COIN is below 0 for the first time");
        EmptyLand x = Lands.still(0, 1, 1, 1);
        x.thing(0, 11, 0, 0);
        x.rate(4, 5);
        x.rate(5, 10);
        Due.text(x, SHUT, "y=2");
        due.is("behind 1", x.left(1, 1), 4);
        due.is("behind 2", x.left(2, 1), -2);
        due.is("behind 3", x.left(3, 1), 3);
        due.is("the first time", x.broke(40), 2);
    }

    private static void restAtLast() {
        due.says(0, "REST: behind how many years there are the same PEOPLE as a year before");
        EmptyLand x = downTo99(138, "1");
        due.is("behind 40", x.rest(40), 40);
        due.is("by 39", x.rest(39), Due.NONE);
        x.become(0, 0, 139);
        due.is("behind 41", x.rest(40), Due.NONE);
        x.become(0, 0, 100);
        due.is("behind 2", x.rest(2), 2);
        due.is("by 1", x.rest(1), Due.NONE);
        x.become(0, 0, 99);
        due.is("behind 1", x.rest(1), 1);
        due.is("of no VILLAGES", new EmptyLand().rest(1), 1);
    }

    private static void restOfAll() {
        due.says(0, "(all SORTS of all VILLAGES) for the first time.");
        // As many leave a SORT as come to it from another one: the sum rests, the SORTS don't.
        EmptyLand x = Lands.still(0, 20, 0, 0);
        x.rate(1, 5);
        due.is("SORTS", x.rest(40), 2);
        // Of the last VILLAGE alone one goes, and only one OLD.
        EmptyLand y = Lands.still(0, 0, 0, 5, 3030, 0, 0, 9, 15, 0, 0, 100);
        Due.text(y, GO, "n=100");
        due.is("VILLAGES", y.rest(40), 2);
        // At rest until a THING is shut in YEAR 3.
        EmptyLand z = Lands.still(0, 10, 0, 0);
        z.thing(0, 1, 0, 0);
        Due.text(z, SHUT, "y=3");
        Due.text(z, GO, "!w*50");
        due.is("for the first time", z.rest(40), 1);
        z.years(3);
        due.is("10, 5, 3, 2, 1, 1", z.rest(40), 5);
    }

    /** Three far apart; all of a VILLAGE go that no THING serves. */
    private static EmptyLand three() {
        EmptyLand x = Lands.still(0, 100, 0, 0, 1500, 200, 0, 0, 3000, 300, 0, 0);
        Due.text(x, GO, "(w=0)*100");
        return x;
    }

    private static void keepForSoMuch() {
        due.says(0, "KEEP for so much: of the sets of the first 6 open THINGS by numbers (none, too) "
            + "with COSTS together not above it,");
        EmptyLand x = three();
        x.thing(0, 10, 0, 0);
        x.thing(2, 25, 0, 0);
        due.is("9: none", x.keep(9, 1, 0), 0);
        due.is("10: the first", x.keep(10, 1, 0), 1);
        due.is("24: the first", x.keep(24, 1, 0), 1);
        due.is("25: the second", x.keep(25, 1, 0), 2);
        due.is("34: the second", x.keep(34, 1, 0), 2);
        due.is("35: both", x.keep(35, 1, 0), 3);
        due.is("9: half of 200 and 300 come to 0, which all leave", x.keep(9, 1, 1), 250);
        due.is("10: half of 200 and 300 come", x.keep(10, 1, 1), 350);
        due.is("25: half of 100 and 200 come", x.keep(25, 1, 1), 450);
        due.is("35: half of 200 come", x.keep(35, 1, 1), 500);
        x.thing(1, 0, 0, 0);
        due.is("0: what costs nothing", x.keep(0, 1, 0), 4);
        due.is("0: LEFT", x.keep(0, 1, 1), 400);
    }

    private static void keepOfTheFirstSix() {
        due.says(0, "the others of these 6 being shut now: that by which LEFT is most;");
        EmptyLand x = three();
        for (int i = 0; i < 5; i++) {
            x.thing(0, 50, 0, 0);
        }
        x.thing(1, 60, 0, 0);
        x.thing(2, 70, 0, 0);
        x.thing(2, 80, 0, 0);
        due.is("the sixth is one of them, the seventh isn't", x.keep(9999, 1, 0), 33);
        due.is("all serve", x.keep(9999, 1, 1), 600);
        due.is("for 109 one", x.keep(109, 1, 0), 32);
        due.is("for 0: the seventh and eighth stay open", x.keep(0, 1, 1), 300 + 50 + 100);
        due.is("for 0: none of the six", x.keep(0, 1, 0), 0);
        x.open(0, 0);
        due.is("now the seventh is one of them", x.keep(9999, 1, 0), 2 + 32);
        due.is("for 130, if the eighth stays", x.keep(130, 1, 0), 2 + 32);
        x.open(7, 0);
        due.is("for 130, the sixth and the seventh", x.keep(130, 1, 0), 32 + 64);
        due.is("for 129, the first and the seventh", x.keep(129, 1, 0), 2 + 64);
    }

    private static void keepOfOpenOnes() {
        due.says(0, "of the sets of the first 6 open THINGS by numbers");
        EmptyLand x = three();
        x.thing(0, 10, 0, 0);
        x.thing(1, 10, 0, 0);
        x.thing(2, 10, 9999, 0);
        x.open(1, 0);
        due.is("a shut one stays shut", x.keep(9999, 1, 0), 1);
        due.is("one that the rule shuts is no use", x.keep(9999, 1, 1), 350);
        x.promise(2, 0);
        due.is("but for a PROMISE", x.keep(9999, 1, 0), 5);
        x.open(0, 0);
        x.open(2, 0);
        due.is("all shut", x.keep(9999, 1, 0), 0);
        EmptyLand ten = three();
        for (int i = 0; i < 10; i++) {
            ten.thing(i % 3, 1, 0, 0);
            ten.open(i, i > 6 ? 1 : 0);
        }
        due.is("the last three of ten", ten.keep(9999, 1, 0), 128 + 256 + 512);
        due.is("the last two of ten", ten.keep(2, 1, 0), 128 + 256);
        due.is("of none", new EmptyLand().keep(0, 40, 1), 0);
    }

    private static void keepOfSeveral() {
        due.says(0, "of several that of the least COST, then the least as bits of THINGS.");
        EmptyLand x = three();
        x.thing(2, 9, 0, 0);
        x.thing(2, 8, 0, 0);
        x.thing(2, 8, 0, 0);
        due.is("of the least COST, then the least", x.keep(100, 1, 0), 2);
        due.is("by 0 years: none", x.keep(100, 0, 0), 0);
        x.open(1, 0);
        due.is("the other of the least COST", x.keep(100, 1, 0), 4);
        EmptyLand y = three();
        y.thing(2, 0, 0, 0);
        y.thing(2, 0, 0, 0);
        due.is("of no COST: the least bits", y.keep(0, 1, 0), 1);
        due.is("of no COST, by 0 years", y.keep(0, 0, 0), 0);
    }

    private static void whenOfYears() {
        due.says(0, "WHEN of an open THING by n: of shutting it behind k years (0 to n; n: not at all) "
            + "that by which LEFT by n is most;");
        // 100, 120, 144, 172, 206 while it is open; from 200 on more come if it is shut.
        EmptyLand x = Lands.still(0, 0, 100, 0);
        x.thing(0, 1, 0, 0);
        Due.text(x, COME, "w*20*(n<200)+!w*10*(n>199)");
        int[] want = {0, 1, 2, 3, 4, 4, 4, 4};
        for (int n = 0; n < want.length; n++) {
            due.is("by " + n, x.when(0, n), want[n]);
        }
        x.promise(0, 199);
        due.is("a PROMISE doesn't matter", x.when(0, 5), 4);
        Due.text(x, COME, "w");
        due.is("not at all", x.when(0, 40), 40);
        Due.text(x, COME, "!w");
        due.is("at once", x.when(0, 40), 0);
    }

    private static void whenOfSeveral() {
        due.says(0, "of several the least k.");
        EmptyLand x = Lands.still(0, 0, 100, 0);
        x.thing(0, 1, 0, 0);
        due.is("it doesn't matter", x.when(0, 40), 0);
        // It matters in the first three years only: 4, 5, .. do as well as 3.
        Due.text(x, COME, "w*20*(n<170)");
        due.is("100, 120, 144, 172", x.when(0, 40), 3);
        // The rule shuts it in YEAR 2, whatever is done later.
        Due.text(x, COME, "w*20");
        Due.text(x, SHUT, "y=2");
        due.is("it is shut behind 2 years anyway", x.when(0, 40), 2);
        due.is("by 2: not at all", x.when(0, 2), 2);
    }

    private static void edgeOfYoung() {
        due.says(0, "EDGE of a THING and its VILLAGE by n: the least number of YOUNG there (0 to 400, all else as now)");
        EmptyLand x = Lands.still(0, 7, 0, 0);
        int[] least = {0, 1, 7, 8, 399, 400, 401, 9999};
        for (int i = 0; i < least.length; i++) {
            x.thing(10, 0, least[i], 0);
            due.is("LEAST " + least[i], x.edge(i, 1), least[i] <= 400 ? least[i] : Due.NONE);
        }
        due.is("YOUNG stay", x.people(0, 0), 7);
        Due.text(x, SHUT, "!(u=400)");
        due.is("400 alone", x.edge(0, 1), 400);
        Due.text(x, SHUT, "!(u=401)");
        due.is("401 alone", x.edge(0, 1), Due.NONE);
        Due.text(x, SHUT, "u>0");
        due.is("0 alone", x.edge(0, 1), 0);
        Due.text(x, SHUT, "!(u=9|u=5)");
        due.is("the least of two", x.edge(0, 1), 5);
    }

    private static void edgeOfItsVillage() {
        due.says(0, "(0 to 400, all else as now)");
        EmptyLand x = Lands.still(0, 7, 20, 30, 1, 100, 200, 300);
        x.thing(10, 0, 120, 2);
        x.thing(20, 0, 700, 2);
        x.thing(41, 0, 50, 2);
        x.thing(41, 0, 51, 2);
        due.is("100 YOUNG are near", x.edge(0, 1), 20);
        due.is("650 others", x.edge(1, 1), 50);
        due.is("50 GROWN and OLD of the other, whatever YOUNG", x.edge(2, 1), 0);
        due.is("51", x.edge(3, 1), Due.NONE);
        due.is("others' YOUNG stay", x.people(1, 0), 100);
    }

    private static void edgeBehindYears() {
        due.says(0, "with which it is open behind n years.");
        EmptyLand x = Lands.still(0, 7, 0, 0);
        x.thing(10, 0, 100, 0);
        Due.text(x, GO, "10");
        due.is("now, whatever LEAST", x.edge(0, 0), 0);
        due.is("behind 1 year: asked with 100", x.edge(0, 1), 100);
        due.is("behind 2 years: 111 become 100", x.edge(0, 2), 111);
        due.is("behind 3 years: 123 become 111", x.edge(0, 3), 123);
        x.promise(0, 0);
        due.is("promised for one of two", x.edge(0, 2), 111);
        x.promise(0, 1);
        due.is("promised for two", x.edge(0, 2), 0);
        x.open(0, 0);
        due.is("shut now", x.edge(0, 0), Due.NONE);
        due.is("shut now, for a year", x.edge(0, 1), Due.NONE);
    }

    /** SITE as it is found by putting a THING like the first one into each VILLAGE, one after the other. */
    private static int bestHome(int kind, int reach, int seed) {
        int best = -1;
        int most = -1;
        for (int village = 0; village < 8; village++) {
            EmptyLand x = new EmptyLand();
            x.seed(seed);
            x.made(8);
            x.thing(10 * kind + village, 0, 0, reach);
            if (x.ofThing(0, 7) > most) {
                most = x.ofThing(0, 7);
                best = village;
            }
        }
        return best;
    }

    private static void siteOfAllVillages() {
        due.says(0, "SITE of two THINGS: the VILLAGE in which a THING like the first one would have most USERS;");
        for (int kind = 0; kind <= 6; kind++) {
            for (int reach = 0; reach <= 60; reach += 10) {
                EmptyLand x = new EmptyLand();
                x.seed(100 * kind + reach);
                x.made(8);
                x.thing(10 * kind + 3, 5, 6, reach);
                x.thing(10 * kind + 5, 5, 6, 300 - reach);
                int best = bestHome(kind, reach, 100 * kind + reach);
                due.is("KIND " + kind + ", REACH " + reach, x.site(0, 1), best);
                x.open(0, 0);
                x.open(1, 0);
                due.is("though they are shut", x.site(0, 1), best);
            }
        }
    }

    private static void siteLikeTheFirst() {
        due.says(0, "would have most USERS; of several the least.");
        EmptyLand x = Lands.of(0, 10, 0, 0, 5, 4, 0, 0, 10, 10, 0, 0);
        x.thing(11, 0, 0, 0);
        x.thing(11, 0, 0, 10);
        x.thing(12, 0, 0, 300);
        due.is("REACH 0: of 10, 4, 10", x.site(0, 1), 0);
        due.is("REACH 10: of 14, 24, 14", x.site(1, 0), 1);
        due.is("REACH 300: of 24, 24, 24", x.site(2, 0), 0);
        x.become(2, 0, 11);
        due.is("REACH 0: of 10, 4, 11", x.site(0, 1), 2);
    }

    private static void roadOfAll() {
        due.says(0, "ROAD by n: the two VILLAGES, not MENDED, by whose WAY, if that is MENDED, LEFT is most;");
        for (int seed = 0; seed < 12; seed++) {
            for (int n = 0; n <= 8; n += 4) {
                int best = -1;
                int most = -1;
                for (int pair = 0; pair < 25; pair++) {
                    EmptyLand y = busy(seed);
                    int one = pair / 5;
                    int other = pair % 5;
                    if (one < other && y.mend(one, other, 1) == 0 && y.left(n, 0) > most) {
                        most = y.left(n, 0);
                        best = 10 * one + other;
                    }
                }
                due.is("by " + n, busy(seed).road(n), best);
            }
        }
    }

    private static void roadOfSeveral() {
        due.says(0, "of several the first, by the lesser, then the greater one.");
        EmptyLand x = Lands.alike(4, 0);
        int[] order = {1, 2, 3, 12, 13, 23};
        for (int road : order) {
            due.is("all alike", x.road(5), road);
            x.mend(road % 10, road / 10, 1);
        }
        due.is("none is left", x.road(5), Due.NONE);
        x.mend(1, 2, 0);
        due.is("one is left", x.road(5), 12);
    }
}
