/** Each sentence of promises 22 to 34, with its edges and what is beside them. */
final class EdgesAheadCallsTest {
    private static final Due due = new Due();
    private static final int SHUT = Lands.SHUT;
    private static final int GO = Lands.GO;

    public static void main(String[] args) {
        left();
        then();
        falls();
        broke();
        rest();
        keep();
        when();
        worth();
        worthOfAShutOne();
        worthOfOneOfThree();
        promised();
        promisedInYear0();
        edge();
        site();
        join();
        joinCosts();
        joinErrors();
        road();
        due.end();
    }

    /** Two far apart; all of a VILLAGE go that no THING serves; one THING, in VILLAGE 1. */
    private static EmptyLand two() {
        EmptyLand x = Lands.still(0, 100, 0, 0, 3030, 200, 0, 0);
        Due.text(x, GO, "(w=0)*100");
        x.thing(1, 10, 0, 0);
        return x;
    }

    private static void left() {
        due.says(22, "AHEAD by n: what 0 LEFT, 1 COIN, 2 open THINGS, as bits, 3 COMFORT of all VILLAGES together. BEYOND.");
        EmptyLand x = two();
        for (int i = 1; i < 10; i++) {
            x.thing(1, 0, i % 2 == 0 ? 0 : 9999, 300);
        }
        int[] now = {Due.BEYOND, 300, 0, 1023, 19, Due.BEYOND};
        int[] then = {Due.BEYOND, 300, 90, 341, 9, Due.BEYOND};
        for (int what = -1; what <= 4; what++) {
            due.is("now, what " + what, x.left(0, what), now[what + 1]);
            due.is("by 1, what " + what, x.left(1, what), then[what + 1]);
        }
        due.is("by 40", x.left(40, 1), 3600);
        due.areErrors("n", Due.BEYOND, x.left(-1, 0), x.left(41, 0), x.left(Due.MIN, 0), x.left(Due.MAX, 0));
        due.is("COIN below 0", lowCoin().left(40, 1), -9999999 - 40 * 9990);
    }

    private static EmptyLand lowCoin() {
        EmptyLand x = Lands.still(0, 1, 1, 1);
        for (int i = 0; i < 10; i++) {
            x.thing(0, 999, 0, 0);
        }
        x.rate(4, 0);
        x.rate(5, -9999999);
        return x;
    }

    private static void then() {
        due.says(23, "AHEAD by n: PEOPLE of a VILLAGE of a SORT (3: all). BEYOND.");
        EmptyLand x = Lands.still(0, 1, 20, 300, 3030, 100, 200, 300);
        Due.text(x, GO, "(n=600)*10");
        int[] now = {Due.BEYOND, 100, 200, 300, 600, Due.BEYOND};
        int[] then = {Due.BEYOND, 90, 180, 270, 540, Due.BEYOND};
        for (int sort = -1; sort <= 4; sort++) {
            due.is("now, SORT " + sort, x.then(0, 1, sort), now[sort + 1]);
            due.is("by 1, SORT " + sort, x.then(1, 1, sort), then[sort + 1]);
        }
        due.is("by 40", x.then(40, 1, 3), 540);
        due.is("HAVEN", x.then(40, 0, 3), 321 + 5 + 10 + 15);
        due.areErrors("n", Due.BEYOND, x.then(-1, 0, 0), x.then(41, 0, 0), x.then(Due.MIN, 0, 0));
        due.areErrors("VILLAGE", Due.BEYOND, x.then(0, -1, 0), x.then(0, 2, 0), x.then(0, Due.MIN, 0));
    }

    private static void falls() {
        due.says(24, "FALLS, by n years at most. BEYOND. NONE.");
        EmptyLand x = two();
        due.is("behind 1, by 40", x.falls(0, 40), 1);
        due.is("behind 1, by 1", x.falls(0, 1), 1);
        due.is("behind 1, by 0", x.falls(0, 0), Due.NONE);
        due.is("never", x.falls(1, 40), Due.NONE);
        due.areErrors("n", Due.BEYOND, x.falls(0, -1), x.falls(0, 41), x.falls(1, 41), x.falls(0, Due.MIN));
        due.areErrors("VILLAGE", Due.BEYOND, x.falls(-1, 0), x.falls(2, 0), x.falls(2, 40));
        due.is("NONE is told", x.told(2), 2);
    }

    private static void broke() {
        due.says(25, "BROKE, by n years at most. BEYOND. NONE.");
        EmptyLand x = two();
        x.rate(4, 9);
        x.rate(5, 1);
        due.is("behind 2, by 2", x.broke(2), 2);
        due.is("behind 2, by 40", x.broke(40), 2);
        due.is("behind 2, by 1", x.broke(1), Due.NONE);
        x.rate(4, 10);
        due.is("never", x.broke(40), Due.NONE);
        due.areErrors("n", Due.BEYOND, x.broke(-1), x.broke(41), x.broke(Due.MIN), x.broke(Due.MAX));
        x.rate(5, -1);
        due.areErrors("though it is so now", Due.BEYOND, x.broke(-1), x.broke(41));
    }

    private static void rest() {
        due.says(26, "REST, by n years (1 to 40) at most. BEYOND. NONE.");
        EmptyLand x = two();
        due.is("behind 2, by 2", x.rest(2), 2);
        due.is("behind 2, by 40", x.rest(40), 2);
        due.is("behind 2, by 1", x.rest(1), Due.NONE);
        due.is("of eight", Lands.alike(8, 10).rest(1), 1);
        due.areErrors("n", Due.BEYOND, x.rest(0), x.rest(41), x.rest(-1), x.rest(Due.MIN), x.rest(Due.MAX));
    }

    private static void keep() {
        due.says(27, "KEEP for c (0 to 9999) by n: what 0 the set, 1 LEFT. BEYOND.");
        EmptyLand x = two();
        due.is("9999", x.keep(9999, 1, 0), 1);
        due.is("9999, LEFT", x.keep(9999, 1, 1), 250);
        due.is("0", x.keep(0, 1, 0), 0);
        due.is("0, LEFT", x.keep(0, 1, 1), 100);
        due.is("by 40", x.keep(9999, 40, 0), 1);
        due.is("by 0", x.keep(9999, 0, 1), 300);
        due.areErrors("c", Due.BEYOND, x.keep(-1, 1, 0), x.keep(10000, 1, 0), x.keep(Due.MIN, 1, 1));
        due.areErrors("n", Due.BEYOND, x.keep(0, -1, 0), x.keep(0, 41, 0), x.keep(0, Due.MAX, 1));
        due.areErrors("what", Due.BEYOND, x.keep(0, 0, -1), x.keep(0, 0, 2), x.keep(0, 0, Due.MIN));
        EmptyLand dear = Lands.still(0, 1, 0, 0);
        Due.text(dear, GO, "100*(w<18)");
        for (int i = 0; i < 6; i++) {
            dear.thing(20, 999, 0, 0);
        }
        due.is("all six cost 5994", dear.keep(5994, 1, 0), 63);
        due.is("5993 are too few", dear.keep(5993, 1, 0), 0);
    }

    private static void when() {
        due.says(28, "WHEN. BEYOND. STATE: it is shut.");
        EmptyLand x = two();
        due.is("by 40", x.when(0, 40), 40);
        due.is("by 0", x.when(0, 0), 0);
        due.areErrors("n", Due.BEYOND, x.when(0, -1), x.when(0, 41), x.when(0, Due.MIN));
        due.areErrors("THING", Due.BEYOND, x.when(-1, 0), x.when(1, 0), x.when(Due.MAX, 0));
        x.open(0, 0);
        due.is("shut", x.when(0, 40), Due.STATE);
        due.is("shut", x.when(0, 0), Due.STATE);
        due.areErrors("BEYOND first", Due.BEYOND, x.when(0, -1), x.when(0, 41), x.when(1, 0));
        due.is("STATE is told", x.told(3), 2);
    }

    private static void worth() {
        due.says(29, "LEFT by n with a THING open now");
        EmptyLand x = two();
        due.is("150 more by 1", x.worth(0, 1), 250 - 100);
        due.is("by 0", x.worth(0, 0), 0);
        due.is("by 40", x.worth(0, 40), 250);
        due.areErrors("n", Due.BEYOND, x.worth(0, -1), x.worth(0, 41), x.worth(0, Due.MIN));
        due.areErrors("THING", Due.BEYOND, x.worth(-1, 0), x.worth(1, 0), x.worth(Due.MIN, 0));
        Due.text(x, GO, "(w>0)*100");
        due.is("below 0", x.worth(0, 1), 100 - 300);
    }

    private static void worthOfAShutOne() {
        due.says(29, "(though it is shut), less LEFT with it shut now. BEYOND.");
        EmptyLand x = two();
        x.open(0, 0);
        due.is("though it is shut", x.worth(0, 1), 150);
        due.is("it stays shut", x.ofThing(0, 5), 0);
        Due.text(x, SHUT, "y=0");
        due.is("the rule shuts it at once", x.worth(0, 1), 0);
        x.promise(0, 0);
        due.is("but for a PROMISE", x.worth(0, 1), 150);
        x.open(0, 1);
        due.is("though it is open", x.worth(0, 1), 150);
        due.is("it stays open", x.ofThing(0, 5), 1);
    }

    private static void worthOfOneOfThree() {
        due.says(29, "LEFT by n with a THING open now (though it is shut), less LEFT with it shut now.");
        EmptyLand x = Lands.still(0, 100, 0, 0, 1500, 200, 0, 0, 3000, 400, 0, 0);
        Due.text(x, GO, "(w=0)*100");
        for (int village = 0; village < 3; village++) {
            x.thing(village, 0, village == 1 ? 9999 : 0, 0);
        }
        x.open(0, 0);
        // What lies ahead of other questions doesn't change what is open now.
        due.is("1 is shut then", x.left(1, 2), 4);
        due.is("2, while 0 is shut and 1 will be", x.worth(2, 1), 400 + 50 + 100 - 300);
        due.is("0, while 2 is open", x.worth(0, 1), 100 + 400 + 100 - 550);
        due.is("1, which the rule shuts", x.worth(1, 1), 0);
        x.promise(1, 0);
        due.is("1, which is promised", x.worth(1, 1), 200 + 400 + 50 - 550);
        due.is("all stay", x.left(0, 2), 6);
    }

    private static void promised() {
        due.says(30, "LEFT by n with a PROMISE up to a YEAR (0 to 199), less LEFT without one. BEYOND.");
        EmptyLand x = two();
        Lands.upTo(x, 5);
        x.become(0, 0, 100);
        x.become(1, 0, 200);
        Due.text(x, SHUT, "1");
        due.is("up to the YEAR ahead", x.promised(0, 4, 1), 0);
        due.is("up to this YEAR", x.promised(0, 5, 1), 250 - 100);
        due.is("up to 0", x.promised(0, 0, 1), 0);
        due.is("up to 199", x.promised(0, 199, 1), 150);
        due.is("by 0", x.promised(0, 199, 0), 0);
        due.is("by 40", x.promised(0, 199, 40), 250);
        due.is("up to the last of 40", x.promised(0, 44, 40), 250);
        due.is("up to the last but one of 40: half come to VILLAGE 0", x.promised(0, 43, 40), 125);
        x.promise(0, 199);
        due.is("without one, though there is one", x.promised(0, 4, 1), 0);
        due.is("with one, whatever there is", x.promised(0, 5, 1), 150);
        due.is("it stays", x.ofThing(0, 6), 199);
        due.areErrors("YEAR", Due.BEYOND, x.promised(0, -1, 1), x.promised(0, 200, 1), x.promised(0, Due.MIN, 1));
        due.areErrors("n", Due.BEYOND, x.promised(0, 0, -1), x.promised(0, 0, 41), x.promised(0, 0, Due.MAX));
        due.areErrors("THING", Due.BEYOND, x.promised(-1, 0, 0), x.promised(1, 0, 0));
        x.open(0, 0);
        due.is("a shut one stays shut", x.promised(0, 199, 1), 0);
    }

    private static void promisedInYear0() {
        due.says(30, "with a PROMISE up to a YEAR (0 to 199), less LEFT without one.");
        EmptyLand x = two();
        Due.text(x, SHUT, "1");
        due.is("up to 0, in YEAR 0", x.promised(0, 0, 1), 250 - 100);
        due.is("up to 0, by 2: half of 250 come to VILLAGE 0", x.promised(0, 0, 2), 125);
        due.is("up to 1, by 2", x.promised(0, 1, 2), 250);
        x.promise(0, 0);
        due.is("without one, though there is one", x.promised(0, 0, 1), 150);
    }

    private static void edge() {
        due.says(31, "EDGE. BEYOND. NONE.");
        EmptyLand x = two();
        x.thing(11, 0, 400, 0);
        x.thing(11, 0, 401, 0);
        due.is("400", x.edge(1, 40), 400);
        due.is("401", x.edge(2, 40), Due.NONE);
        due.is("401, by 0", x.edge(2, 0), 0);
        due.areErrors("n", Due.BEYOND, x.edge(0, -1), x.edge(0, 41), x.edge(2, 41));
        due.areErrors("THING", Due.BEYOND, x.edge(-1, 0), x.edge(3, 0), x.edge(Due.MAX, 0));
        x.open(0, 0);
        due.is("shut", x.edge(0, 0), Due.NONE);
        due.areErrors("BEYOND first", Due.BEYOND, x.edge(0, -1), x.edge(0, 41));
        due.is("NONE is told", x.told(2), 2);
    }

    private static void site() {
        due.says(32, "SITE. BEYOND: also one THING twice. KIND: they are of unlike KINDS.");
        for (int one = 0; one <= 6; one++) {
            for (int other = 0; other <= 6; other++) {
                EmptyLand x = Lands.alike(1, 0);
                x.thing(10 * one, 0, 0, 0);
                x.thing(10 * other, 0, 0, 0);
                due.is("KINDS " + one + ", " + other, x.site(0, 1), one == other ? 0 : Due.KIND);
            }
        }
        EmptyLand x = Lands.alike(1, 2);
        due.areErrors("one THING twice", Due.BEYOND, x.site(0, 0), x.site(1, 1));
        due.areErrors("THINGS", Due.BEYOND, x.site(-1, 0), x.site(0, -1), x.site(2, 0), x.site(0, 2), x.site(2, 2),
            x.site(Due.MIN, Due.MAX));
        due.is("none came, none is shut", x.count(2) * 10 + x.count(3), 22);
    }

    private static void join() {
        due.says(33, "Two THINGS are shut, one more comes to their SITE, with KIND, LEAST, REACH of the first,");
        for (int kind = 0; kind <= 6; kind++) {
            EmptyLand x = Lands.of(0, 1, 1, 1, 3030, 9, 9, 9);
            x.thing(10 * kind, 5, 6, 300);
            x.thing(10 * kind + 1, 7, 8, 2);
            x.promise(0, 9);
            x.open(1, 0);
            int site = x.site(0, 1);
            due.is("its number", x.join(0, 1), 2);
            int[] want = {kind, site, 12, 6, 300, 1, -1};
            for (int what = 0; what < want.length; what++) {
                due.is("what " + what, x.ofThing(2, what), want[what]);
            }
            due.is("both are shut", x.ofThing(0, 5) + x.ofThing(1, 5), 0);
            due.is("one is open", x.left(0, 2), 4);
            due.is("the other way round", x.join(1, 2), 3);
            due.is("LEAST of the first", x.ofThing(3, 3), 8);
            due.is("REACH of the first", x.ofThing(3, 4), 2);
        }
    }

    private static void joinCosts() {
        due.says(33, "COST of both together (999 at most): its number.");
        int[][] costs = {{0, 0, 0}, {499, 499, 998}, {499, 500, 999}, {500, 500, 999}, {999, 999, 999}, {999, 0, 999}};
        for (int[] cost : costs) {
            EmptyLand x = Lands.alike(1, 0);
            x.thing(0, cost[0], 0, 0);
            x.thing(0, cost[1], 0, 0);
            due.is("its number", x.join(0, 1), 2);
            due.is(cost[0] + " and " + cost[1], x.ofThing(2, 2), cost[2]);
        }
    }

    private static void joinErrors() {
        due.says(33, "BEYOND, KIND as of site(). FULL.");
        EmptyLand x = Lands.alike(1, 8);
        x.thing(10, 0, 0, 0);
        due.areErrors("one THING twice", Due.BEYOND, x.join(0, 0), x.join(8, 8));
        due.areErrors("THINGS", Due.BEYOND, x.join(-1, 0), x.join(0, -1), x.join(9, 0), x.join(0, 9));
        due.areErrors("KINDS", Due.KIND, x.join(0, 8), x.join(8, 0));
        due.is("none is shut", x.count(3), 9);
        due.is("the tenth", x.join(0, 1), 9);
        due.is("an eleventh", x.join(2, 3), Due.FULL);
        due.is("none is shut", x.count(3), 8);
        due.is("none came", x.count(2), 10);
        due.areErrors("BEYOND first", Due.BEYOND, x.join(2, 2), x.join(2, 10), x.join(-1, 2));
        due.areErrors("KIND first", Due.KIND, x.join(2, 8));
    }

    private static void road() {
        due.says(34, "ROAD: 10 * the lesser, and the greater one. BEYOND. NONE: there are no two that aren't MENDED.");
        EmptyLand x = new EmptyLand();
        due.is("no VILLAGES", x.road(0), Due.NONE);
        due.areErrors("BEYOND first", Due.BEYOND, x.road(-1), x.road(41));
        x = Lands.alike(1, 0);
        due.is("one VILLAGE", x.road(40), Due.NONE);
        x = Lands.alike(2, 0);
        due.is("two", x.road(40), 1);
        due.is("by 0", x.road(0), 1);
        x.mend(1, 0, 1);
        due.is("MENDED", x.road(40), Due.NONE);
        x = Lands.alike(8, 0);
        for (int one = 0; one < 8; one++) {
            for (int other = one + 1; other < 8; other++) {
                due.is("of eight", x.road(0), 10 * one + other);
                x.mend(other, one, 1);
            }
        }
        due.is("all are MENDED", x.road(0), Due.NONE);
        due.is("of VILLAGES without PEOPLE", Lands.of(0, 0, 0, 0, 9, 0, 0, 0).road(3), 1);
        due.areErrors("n", Due.BEYOND, x.road(-1), x.road(41), x.road(Due.MIN), x.road(Due.MAX));
    }
}
