/** Each sentence of Terms 3, and of promises 20 and 21, with its edges and what is beside them. */
final class EdgesYearsTest {
    private static final Due due = new Due();
    private static final int SHUT = Lands.SHUT;
    private static final int GO = Lands.GO;
    private static final int COME = Lands.COME;

    public static void main(String[] args) {
        shutsByPromise();
        shutsByRule();
        shutsAheadOfAll();
        goesByNumbers();
        goesAllAtOnce();
        halfToHaven();
        halfOfEach();
        havenIsHeld();
        havenIsHeldAheadOfTheRest();
        comes();
        comesHeld();
        agesCut();
        agesAtOnce();
        agesHeld();
        coin();
        coinIsHeldByNothing();
        nowIsMore();
        rates();
        rate();
        years();
        due.end();
    }

    private static void shutsByPromise() {
        due.says(0, "3. A YEAR goes by: (1) THINGS by numbers: one that is open, whose PROMISE is less than NOW, is shut, "
            + "if SHUT isn't 0.");
        EmptyLand x = Lands.upTo(Lands.still(0, 1, 1, 1), 10);
        for (int promise = 9; promise <= 11; promise++) {
            x.thing(0, 0, 9999, 0);
            x.promise(promise - 9, promise);
        }
        due.is("NOW", x.count(0), 10);
        due.is("9 is less than 10", x.left(1, 2), 6);
        due.is("10 is less than 11", x.left(2, 2), 4);
        due.is("11 is less than 12", x.left(3, 2), 0);
        x.promise(0, -1);
        due.is("-1 is less than 10", x.left(1, 2), 6);
    }

    private static void shutsByRule() {
        due.says(0, "one that is open, whose PROMISE is less than NOW, is shut, if SHUT isn't 0.");
        EmptyLand x = Lands.still(0, 1, 1, 1);
        x.thing(0, 3, 0, 0);
        x.thing(0, 2, 0, 0);
        x.thing(0, 1, 0, 0);
        Due.text(x, SHUT, "c-2");
        due.is("1 and -1 aren't 0", x.left(1, 2), 2);
        Due.text(x, SHUT, "0");
        x.open(1, 0);
        due.is("a shut one stays shut", x.left(40, 2), 5);
        Due.text(x, SHUT, "y=0&c=1");
        due.is("shut in one YEAR, shut from then on", x.left(40, 2), 1);
    }

    private static void shutsAheadOfAll() {
        due.says(0, "(by COMFORT now and its PEOPLE as they were ahead of (2), all at once)");
        EmptyLand x = Lands.still(0, 100, 0, 0);
        x.thing(10, 50, 101, 0);
        x.thing(20, 20, 100, 0);
        Due.text(x, GO, "w");
        x.years(1);
        due.is("the SCHOOL is shut", x.ofThing(0, 5), 0);
        due.is("COMFORT of the SHOP alone", x.people(0, 0), 97);
        due.is("the SHOP was asked ahead of who went", x.ofThing(1, 5), 1);
        due.is("COST of the SHOP alone", x.count(4), 80);
        x.years(1);
        due.is("97 are less than 100", x.ofThing(1, 5), 0);
    }

    private static void goesByNumbers() {
        due.says(0, "(2) Of each VILLAGE, of each SORT so many of 100 GO");
        int[] people = {0, 1, 99, 100, 101, 199, 200, 99999};
        for (int n : people) {
            EmptyLand x = Lands.still(0, n, n, n);
            Due.text(x, GO, "s+1");
            x.years(1);
            due.are("of " + n, Lands.sorts(x, 0), n - n / 100, n - 2 * n / 100, n - 3 * n / 100);
            Due.text(x, GO, "100");
            x.years(1);
            due.is("all of them", x.people(0, 3), 0);
        }
    }

    private static void goesAllAtOnce() {
        due.says(0, "(by COMFORT now and its PEOPLE as they were ahead of (2), all at once)");
        // HAVEN is 0, and 1: who comes to it in this YEAR doesn't go again, and isn't counted in n.
        for (int haven = 0; haven < 2; haven++) {
            EmptyLand x = Lands.still(0, 100, 100, 100, 3030, 100, 100, 100);
            x.thing(haven, 0, 0, 0);
            Due.text(x, GO, "50*(n=300)");
            x.years(1);
            due.are("HAVEN", Lands.sorts(x, haven), 75, 75, 75);
            due.are("the other", Lands.sorts(x, 1 - haven), 50, 50, 50);
        }
        // n is the same for all SORTS, though YOUNG went ahead of OLD.
        EmptyLand y = Lands.still(0, 100, 100, 100);
        Due.text(y, GO, "n=300");
        y.years(1);
        due.are("each by 300", Lands.sorts(y, 0), 99, 99, 99);
    }

    private static void halfToHaven() {
        due.says(0, "of those of a SORT that go half (cut) come to HAVEN, as the same SORT, if that is another VILLAGE; "
            + "the rest are off.");
        for (int gone = 0; gone <= 5; gone++) {
            EmptyLand x = Lands.still(0, gone, 0, 0, 3030, 0, 0, gone, 15, 7, 7, 7);
            x.thing(2, 0, 0, 0);
            Due.text(x, GO, "100*(w=0)");
            x.years(1);
            due.are("HAVEN, of " + gone, Lands.sorts(x, 2), 7 + gone / 2, 7, 7 + gone / 2);
            due.is("the others", x.people(0, 3) + x.people(1, 3), 0);
        }
        EmptyLand y = Lands.still(0, 10, 10, 10, 3030, 1, 1, 1);
        y.thing(0, 0, 0, 0);
        Due.text(y, GO, "w*100");
        y.years(1);
        due.is("none of HAVEN comes to HAVEN", y.people(0, 3), 0);
        due.is("nor to another", y.people(1, 3), 3);
    }

    private static void halfOfEach() {
        due.says(0, "of those of a SORT that go half (cut)");
        // 3 and 5 go: 1 and 2 come, not the half of 8; 1 of each SORT: none comes.
        EmptyLand x = Lands.still(0, 3, 1, 1, 3030, 5, 1, 1, 15, 0, 0, 0);
        x.thing(2, 0, 0, 0);
        Due.text(x, GO, "100*(w=0)");
        x.years(1);
        due.are("HAVEN", Lands.sorts(x, 2), 3, 0, 0);
    }

    private static void havenIsHeld() {
        due.says(0, "what would be more is held there).");
        for (int there = 99998; there <= 99999; there++) {
            for (int came = 0; came <= 2; came++) {
                EmptyLand x = Lands.still(0, there, there, there, 3030, 2 * came, 2 * came, 2 * came);
                x.thing(0, 0, 0, 0);
                Due.text(x, GO, "100*(w=0)");
                // Of 99999 GROWN 50 of 100 become OLD: more than 99999 would show here.
                x.rate(2, 50);
                x.rate(3, 50);
                x.years(1);
                int held = Math.min(99999, there + came);
                due.is("YOUNG", x.people(0, 0), held);
                due.is("GROWN", x.people(0, 1), held - held / 2);
                due.is("OLD", x.people(0, 2), held);
            }
        }
        // Who goes from HAVEN goes ahead of being held there.
        EmptyLand y = Lands.still(0, 99999, 0, 0, 3030, 99999, 0, 0);
        y.thing(0, 0, 0, 0);
        Due.text(y, GO, "10+90*(w=0)");
        y.years(1);
        due.is("99999 less 9999, and 49999", y.people(0, 0), 99999);
        Due.text(y, GO, "60*w");
        y.become(1, 0, 0);
        y.years(1);
        due.is("99999 less 59999", y.people(0, 0), 40000);
    }

    private static void havenIsHeldAheadOfTheRest() {
        due.says(0, "what would be more is held there).");
        for (int sort = 0; sort < 3; sort++) {
            int[] there = new int[3];
            there[sort] = 99999;
            EmptyLand x = Lands.still(0, there[0], there[1], there[2], 3030, there[0], there[1], there[2]);
            x.thing(0, 0, 0, 0);
            Due.text(x, GO, "100*(w=0)");
            for (int rate = 1; rate < 4; rate++) {
                x.rate(rate, 10);
            }
            // 49999 come to 99999: 10 of 100 of 99999 are 9999, not 14999.
            int[] want = new int[3];
            want[sort] = 90000;
            if (sort < 2) {
                want[sort + 1] = 9999;
            }
            x.years(1);
            due.are("SORT " + sort, Lands.sorts(x, 0), want);
        }
        EmptyLand y = Lands.still(0, 99999, 0, 0, 3030, 99999, 0, 0);
        y.thing(0, 0, 0, 0);
        Due.text(y, GO, "100*(w=0)");
        Due.text(y, COME, "20");
        y.years(1);
        due.are("20 of 100 of 99999 COME", Lands.sorts(y, 0), 99999, 19999, 0);
    }

    private static void comes() {
        due.says(0, "(3) Of all PEOPLE of each VILLAGE (as they are behind (2)) so many of 100 COME as GROWN.");
        int[] people = {0, 9, 10, 11, 19, 20, 99};
        for (int n : people) {
            EmptyLand x = Lands.still(0, n, 0, 0, 3030, 0, 0, n);
            Due.text(x, COME, "10");
            x.years(1);
            due.are("of YOUNG", Lands.sorts(x, 0), n, n / 10, 0);
            due.are("of OLD", Lands.sorts(x, 1), 0, n / 10, n);
        }
        // Of SORTS together, not of each by itself: 20 of 100 of 4 and 4 and 4 are 2.
        EmptyLand y = Lands.still(0, 4, 4, 4);
        Due.text(y, COME, "20");
        due.is("of all", y.then(1, 0, 1), 6);
        EmptyLand z = Lands.still(0, 0, 0, 200, 3030, 0, 0, 200);
        z.thing(0, 0, 0, 0);
        Due.text(z, GO, "50*(w=0)");
        Due.text(z, COME, "(n=250)*10+(n=100)*7");
        z.years(1);
        due.are("HAVEN behind (2)", Lands.sorts(z, 0), 0, 25, 250);
        due.are("the other behind (2)", Lands.sorts(z, 1), 0, 7, 100);
    }

    private static void comesHeld() {
        due.says(0, "what would be more is held there).");
        for (int grown = 99998; grown <= 99999; grown++) {
            EmptyLand x = Lands.still(0, 0, grown, 0);
            Due.text(x, COME, "20");
            x.rate(0, 20);
            x.years(1);
            due.is("GROWN", x.people(0, 1), 99999);
            due.is("YOUNG of 99999 GROWN", x.people(0, 0), 19999);
        }
    }

    private static void agesCut() {
        due.says(0, "(4) By numbers as they are behind (3): BORN of 100 GROWN come as YOUNG; AGED of 100 YOUNG become GROWN; "
            + "OLDER of 100 GROWN become OLD; DIE of 100 OLD are no more (each cut).");
        // As at first: 3, 6, 3, 5 of 100.
        int[] people = {0, 1, 16, 17, 19, 20, 33, 34, 66, 67, 99, 100};
        for (int n : people) {
            EmptyLand x = Lands.of(0, n, n, n);
            Due.text(x, GO, "0");
            x.years(1);
            int young = n + 3 * n / 100 - 6 * n / 100;
            int grown = n + 6 * n / 100 - 3 * n / 100;
            int old = n + 3 * n / 100 - 5 * n / 100;
            due.are("of " + n, Lands.sorts(x, 0), young, grown, old);
        }
        EmptyLand y = Lands.of(0, 33, 0, 0, 0, 0, 33, 0, 0, 0, 34, 0, 0, 0, 0, 19, 0, 0, 0, 20, 0, 17, 0, 0, 0, 16, 0, 0);
        Due.text(y, GO, "0");
        y.years(1);
        due.are("33 YOUNG", Lands.sorts(y, 0), 32, 1, 0);
        due.are("33 GROWN", Lands.sorts(y, 1), 0, 33, 0);
        due.are("34 GROWN", Lands.sorts(y, 2), 1, 33, 1);
        due.are("19 OLD", Lands.sorts(y, 3), 0, 0, 19);
        due.are("20 OLD", Lands.sorts(y, 4), 0, 0, 19);
        due.are("17 YOUNG", Lands.sorts(y, 5), 16, 1, 0);
        due.are("16 YOUNG", Lands.sorts(y, 6), 16, 0, 0);
    }

    private static void agesAtOnce() {
        due.says(0, "(4) By numbers as they are behind (3)");
        EmptyLand x = Lands.still(0, 100, 100, 100);
        x.rate(0, 20);
        x.rate(1, 50);
        x.rate(2, 40);
        x.rate(3, 30);
        x.years(1);
        due.are("each of 100", Lands.sorts(x, 0), 100 + 20 - 50, 100 + 50 - 40, 100 + 40 - 30);
        // Who comes in (3) is among the GROWN; who went in (2) isn't.
        EmptyLand y = Lands.still(0, 0, 200, 0);
        Due.text(y, GO, "50");
        Due.text(y, COME, "20");
        y.rate(0, 10);
        y.rate(2, 10);
        y.years(1);
        due.are("of 120 GROWN", Lands.sorts(y, 0), 12, 108, 12);
    }

    private static void agesHeld() {
        due.says(0, "what would be more is held there).");
        for (int more = 0; more <= 1; more++) {
            EmptyLand young = Lands.still(0, 99989 + more, 100, 0);
            young.rate(0, 10);
            young.years(1);
            due.are("YOUNG", Lands.sorts(young, 0), 99999, 100, 0);
            EmptyLand grown = Lands.still(0, 100, 99989 + more, 0);
            grown.rate(1, 10);
            grown.years(1);
            due.are("GROWN", Lands.sorts(grown, 0), 90, 99999, 0);
            EmptyLand old = Lands.still(0, 0, 100, 99989 + more);
            old.rate(2, 10);
            old.years(1);
            due.are("OLD", Lands.sorts(old, 0), 0, 90, 99999);
        }
        // As many go as come: who is held there is what is left then.
        EmptyLand x = Lands.still(0, 99999, 99999, 99999);
        for (int rate = 0; rate < 4; rate++) {
            x.rate(rate, 20);
        }
        x.years(1);
        due.are("none would be more", Lands.sorts(x, 0), 99999, 99999, 99999);
    }

    private static void coin() {
        due.says(0, "(5) COIN is more by INCOME, less by COSTS of all open THINGS");
        EmptyLand x = Lands.still(0, 1, 1, 1);
        due.is("INCOME", x.left(1, 1), 100);
        x.thing(0, 30, 0, 0);
        x.thing(0, 50, 9999, 0);
        x.thing(0, 7, 0, 0);
        x.open(2, 0);
        due.is("what is shut in (1) costs nothing", x.left(1, 1), 70);
        x.promise(1, 0);
        due.is("what is open costs", x.left(1, 1), 20);
        due.is("then it is shut", x.left(2, 1), 90);
        x.rate(4, 0);
        x.rate(5, -5);
        due.is("from COIN on", x.left(1, 1), -85);
        x.rate(4, 9999);
        due.is("most INCOME", x.left(1, 1), -5 + 9999 - 80);
    }

    private static void coinIsHeldByNothing() {
        due.says(0, "(held by nothing).");
        EmptyLand x = new EmptyLand();
        x.rate(5, 9999999);
        x.rate(4, 9999);
        due.is("above 9999999", x.years(1), 1);
        due.is("COIN", x.count(4), 9999999 + 9999);
        due.is("AHEAD", x.left(40, 1), 9999999 + 41 * 9999);
        due.is("what it was", x.rate(5, -9999999), 9999999 + 9999);
        x.rate(4, 0);
        x.village(0, 1, 1, 1);
        for (int i = 0; i < 10; i++) {
            x.thing(0, 999, 0, 0);
        }
        x.years(50);
        due.is("below -9999999", x.count(4), -9999999 - 50 * 9990);
        due.is("what it was", x.rate(5, 0), -9999999 - 50 * 9990);
    }

    private static void nowIsMore() {
        due.says(0, "(6) NOW is 1 more.");
        EmptyLand x = new EmptyLand();
        due.is("1", x.years(1), 1);
        due.is("3", x.years(2), 3);
        due.is("NOW", x.count(0), 3);
    }

    private static void rates() {
        due.says(0, "RATES: 0 BORN (0 to 20; 3 at first), 1 AGED (0 to 50; 6), 2 OLDER (0 to 50; 3), 3 DIE (0 to 50; 5), "
            + "4 INCOME (0 to 9999; 100), 5 COIN (-9999999 to 9999999; 0).");
        int[][] want = {{0, 20, 3}, {0, 50, 6}, {0, 50, 3}, {0, 50, 5}, {0, 9999, 100}, {-9999999, 9999999, 0}};
        EmptyLand x = new EmptyLand();
        for (int rate = 0; rate < 6; rate++) {
            int least = want[rate][0];
            int most = want[rate][1];
            due.is("at first " + rate, x.rate(rate, least), want[rate][2]);
            due.is("below the least of " + rate, x.rate(rate, least - 1), Due.BEYOND);
            due.is("the most of " + rate, x.rate(rate, most), least);
            due.is("above the most of " + rate, x.rate(rate, most + 1), Due.BEYOND);
            due.is("it stays", x.rate(rate, least + 1), most);
            due.is("one beside the least", x.rate(rate, most - 1), least + 1);
            due.is("one beside the most", x.rate(rate, least), most - 1);
        }
    }

    private static void rate() {
        due.says(20, "A RATE becomes v: what it was. BEYOND.");
        EmptyLand x = new EmptyLand();
        due.areErrors("RATE", Due.BEYOND, x.rate(-1, 0), x.rate(6, 0), x.rate(Due.MIN, 0), x.rate(Due.MAX, 0));
        due.areErrors("v", Due.BEYOND, x.rate(0, Due.MAX), x.rate(5, Due.MIN), x.rate(5, Due.MAX));
        due.is("v", x.rate(5, 7), 0);
        due.is("COIN", x.count(4), 7);
        x.years(1);
        due.is("what years made of it", x.rate(5, 0), 107);
        int[] others = {3, 6, 3, 5, 100};
        for (int rate = 0; rate < 5; rate++) {
            due.is("others stay", x.rate(rate, 0), others[rate]);
        }
    }

    private static void years() {
        due.says(21, "n (1 to 50) YEARS go by: NOW. BEYOND: n. STATE: it would be above 199.");
        EmptyLand x = new EmptyLand();
        due.areErrors("n", Due.BEYOND, x.years(0), x.years(51), x.years(-1), x.years(Due.MIN), x.years(Due.MAX));
        due.is("none went by", x.count(0), 0);
        due.is("50", x.years(50), 50);
        for (int n = 1; n <= 50; n++) {
            EmptyLand y = Lands.upTo(new EmptyLand(), 200 - n);
            due.is("up to 200", y.years(n), Due.STATE);
            due.is("none went by", y.count(0) + y.count(4), 101 * (200 - n));
            due.is("BEYOND first", y.years(51), Due.BEYOND);
            EmptyLand z = Lands.upTo(new EmptyLand(), 199 - n);
            due.is("up to 199", z.years(n), 199);
        }
    }
}
