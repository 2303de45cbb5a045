/** Promises 22 to 34: what lies ahead, and what is best done. */
final class AheadTest {
    private static final Due due = new Due();
    private static final int SHUT = 0;
    private static final int GO = 1;
    private static final int COME = 2;

    public static void main(String[] args) {
        left();
        aheadBeyond199();
        aheadChangesNothing();
        then();
        falls();
        broke();
        rest();
        keep();
        keepOfSix();
        when();
        worth();
        promised();
        edge();
        site();
        join();
        road();
        due.end();
    }

    /** A land in which nobody is born, ages, dies, goes or comes, but by what a test adds. */
    private static EmptyLand still() {
        EmptyLand x = new EmptyLand();
        for (int rate = 0; rate < 4; rate++) {
            x.rate(rate, 0);
        }
        Due.text(x, GO, "0");
        return x;
    }

    private static void left() {
        EmptyLand x = still();
        due.is("LEFT of none", x.left(40, 0), 0);
        due.is("COIN of none", x.left(40, 1), 4000);
        x.village(0, 100, 100, 100);
        x.village(10, 10, 10, 10);
        x.thing(10, 30, 0, 20);
        x.thing(20, 90, 9999, 0);
        x.thing(41, 5, 0, 0);
        x.open(2, 0);
        Due.text(x, GO, "10*(w=0)");
        due.is("LEFT now", x.left(0, 0), 330);
        due.is("COIN now", x.left(0, 1), 0);
        due.is("open now", x.left(0, 2), 3);
        due.is("COMFORT now", x.left(0, 3), 13);
        due.is("LEFT", x.left(1, 0), 330);
        due.is("COIN", x.left(3, 1), 3 * 70);
        due.is("open", x.left(1, 2), 1);
        due.is("COMFORT", x.left(1, 3), 10);
        x.open(0, 0);
        due.is("LEFT: 30 of 300 off, 3 of 30, of which half (cut) to HAVEN", x.left(1, 0), 297);
        due.areErrors("left", Due.BEYOND,
            x.left(-1, 0), x.left(41, 0), x.left(0, 4), x.left(0, -1), x.left(Due.MIN, Due.MAX));
    }

    private static void aheadBeyond199() {
        EmptyLand x = still();
        x.village(0, 1, 1, 1);
        x.thing(0, 0, 9999, 0);
        x.promise(0, 199);
        x.years(50);
        x.years(50);
        x.years(50);
        x.years(45);
        due.is("open up to 199", x.left(5, 2), 1);
        due.is("shut in 200", x.left(6, 2), 0);
        due.is("COIN goes on", x.left(40, 1), 23500);
        Due.text(x, SHUT, "y>203");
        due.is("year 203", x.left(9, 2), 1);
        due.is("year 204", x.left(10, 2), 0);
    }

    private static void aheadChangesNothing() {
        EmptyLand x = new EmptyLand();
        x.made(4);
        x.thing(11, 40, 50, 20);
        x.thing(23, 60, 9999, 40);
        x.thing(12, 7, 3, 5);
        int[] was = state(x);
        x.left(40, 0);
        x.then(40, 1, 1);
        x.falls(2, 40);
        x.broke(40);
        x.rest(40);
        x.keep(50, 20, 0);
        x.when(0, 20);
        x.worth(1, 20);
        x.promised(0, 10, 20);
        x.edge(0, 20);
        x.site(0, 2);
        x.road(20);
        x.check(20);
        int[] is = state(x);
        for (int i = 0; i < was.length; i++) {
            due.is("state " + i, is[i], was[i]);
        }
    }

    private static int[] state(EmptyLand x) {
        int[] state = new int[60];
        int at = 0;
        for (int village = 0; village < 4; village++) {
            for (int sort = 0; sort < 3; sort++) {
                state[at++] = x.people(village, sort);
            }
            for (int other = 0; other < 4; other++) {
                state[at++] = x.way(village, other);
            }
        }
        for (int thing = 0; thing < 3; thing++) {
            state[at++] = x.ofThing(thing, 5);
            state[at++] = x.ofThing(thing, 6);
            state[at++] = x.ofThing(thing, 9);
        }
        for (int what = 0; what <= 8; what++) {
            state[at++] = x.count(what);
        }
        return state;
    }

    private static void then() {
        EmptyLand x = still();
        x.village(0, 100, 200, 300);
        x.village(3, 7, 8, 9);
        x.rate(1, 10);
        due.is("now", x.then(0, 1, 3), 24);
        due.is("YOUNG", x.then(2, 0, 0), 81);
        due.is("GROWN", x.then(2, 0, 1), 219);
        due.is("OLD", x.then(2, 0, 2), 300);
        due.is("all", x.then(40, 0, 3), 600);
        due.areErrors("then", Due.BEYOND,
            x.then(-1, 0, 0), x.then(41, 0, 0), x.then(0, 2, 0), x.then(0, -1, 0), x.then(0, 0, 4), x.then(0, 0, -1));
    }

    private static void falls() {
        EmptyLand x = still();
        x.village(0, 8, 0, 0);
        x.village(0, 0, 0, 0);
        x.village(0, 0, 0, 1);
        Due.text(x, GO, "(n>1)*50+(n=1)*100*(s=0)");
        due.is("8, 4, 2, 1, 0", x.falls(0, 40), 4);
        due.is("by four", x.falls(0, 4), 4);
        due.is("by three", x.falls(0, 3), Due.NONE);
        due.is("now", x.falls(1, 0), 0);
        due.is("never", x.falls(2, 40), Due.NONE);
        // Empty for the first time, though some come to it as HAVEN later.
        x.thing(1, 0, 0, 0);
        due.is("the first time", x.falls(1, 40), 0);
        due.areErrors("falls", Due.BEYOND, x.falls(3, 0), x.falls(-1, 0), x.falls(0, 41), x.falls(0, -1));
    }

    private static void broke() {
        EmptyLand x = still();
        x.village(0, 1, 1, 1);
        x.thing(0, 130, 0, 0);
        x.rate(5, 60);
        due.is("60, 30, 0, -30", x.broke(40), 3);
        due.is("by three", x.broke(3), 3);
        due.is("by two", x.broke(2), Due.NONE);
        x.rate(5, -1);
        due.is("now", x.broke(0), 0);
        x.rate(5, 0);
        due.is("0 isn't below 0", x.broke(0), Due.NONE);
        due.areErrors("broke", Due.BEYOND, x.broke(-1), x.broke(41), x.broke(Due.MIN));
    }

    private static void rest() {
        EmptyLand x = still();
        x.village(0, 8, 0, 0);
        Due.text(x, GO, "(n>1)*50");
        due.is("8, 4, 2, 1, 1", x.rest(40), 4);
        due.is("by four", x.rest(4), 4);
        due.is("by three", x.rest(3), Due.NONE);
        due.areErrors("rest", Due.BEYOND, x.rest(0), x.rest(41), x.rest(-1));
        // As many as ahead, but of other SORTS, is no rest.
        EmptyLand y = still();
        y.village(0, 10, 0, 0);
        y.rate(1, 10);
        due.is("one becomes GROWN, then none", y.rest(40), 2);
        y.village(0, 11, 0, 0);
        y.village(0, 0, 0, 0);
        due.is("all villages are to rest", y.rest(40), 3);
        // Other years than the last don't matter, COIN and THINGS neither.
        EmptyLand z = still();
        z.village(0, 3, 3, 3);
        z.thing(0, 1, 9999, 0);
        due.is("the same people", z.rest(1), 1);
    }

    /** Three villages far apart; in each 100 people leave unless a thing serves them. */
    private static EmptyLand three() {
        EmptyLand x = still();
        x.village(0, 100, 0, 0);
        x.village(1500, 200, 0, 0);
        x.village(3000, 300, 0, 0);
        Due.text(x, GO, "(w=0)*100");
        return x;
    }

    private static void keep() {
        EmptyLand x = three();
        due.is("no things", x.keep(9999, 1, 0), 0);
        due.is("LEFT: half come to HAVEN, which empties itself", x.keep(9999, 1, 1), 250);
        x.thing(0, 10, 0, 0);
        x.thing(1, 20, 0, 0);
        x.thing(2, 30, 0, 0);
        due.is("all", x.keep(60, 1, 0), 7);
        due.is("LEFT", x.keep(60, 1, 1), 600);
        due.is("for 59 the last two", x.keep(59, 1, 0), 6);
        due.is("LEFT: 50 of 100 come to HAVEN", x.keep(59, 1, 1), 550);
        due.is("for 40 the first and the last", x.keep(40, 1, 0), 5);
        due.is("for 30 the first two, of like LEFT and COST as the last", x.keep(30, 1, 0), 3);
        due.is("for 29 the second", x.keep(29, 1, 0), 2);
        due.is("for 9 none", x.keep(9, 1, 0), 0);
        due.is("of several the least cost", x.keep(60, 0, 0), 0);
        x.open(1, 0);
        due.is("of open ones", x.keep(60, 1, 0), 5);
        EmptyLand y = three();
        y.thing(2, 7, 0, 0);
        y.thing(2, 6, 0, 0);
        y.thing(2, 6, 0, 0);
        due.is("of several the least cost, then the least bits", y.keep(60, 1, 0), 2);
        due.areErrors("keep", Due.BEYOND, y.keep(-1, 0, 0), y.keep(10000, 0, 0), y.keep(0, -1, 0), y.keep(0, 41, 0),
            y.keep(0, 0, -1), y.keep(0, 0, 2));
    }

    private static void keepOfSix() {
        EmptyLand x = three();
        x.thing(0, 1, 0, 0);
        for (int i = 1; i <= 5; i++) {
            x.thing(1, 10 * i, 0, 0);
        }
        x.thing(2, 999, 0, 0);
        // The seventh isn't among the first six: it stays open, and its COST doesn't count.
        due.is("of the first six", x.keep(100, 1, 0), 3);
        due.is("LEFT", x.keep(100, 1, 1), 600);
        due.is("LEFT for nothing", x.keep(0, 1, 1), 450);
        x.open(0, 0);
        due.is("of the first six that are open", x.keep(100, 1, 0), 2);
        for (int i = 1; i <= 4; i++) {
            x.open(i, 0);
        }
        due.is("two left, one is too dear", x.keep(998, 1, 0), 32);
        due.is("two left", x.keep(1049, 1, 0), 96);
    }

    private static void when() {
        EmptyLand x = three();
        x.thing(0, 10, 0, 0);
        x.thing(1, 10, 0, 0);
        x.thing(2, 10, 0, 0);
        due.is("not at all", x.when(0, 7), 7);
        due.is("of several the least", x.when(0, 0), 0);
        x.thing(0, 10, 0, 0);
        due.is("of several the least: another serves the same", x.when(0, 7), 0);
        x.open(3, 0);
        Due.text(x, COME, "(w=0)*20");
        Due.text(x, GO, "(w>0)*10");
        due.is("at once, if it drives them off", x.when(0, 5), 0);
        EmptyLand y = still();
        y.village(0, 0, 100, 0);
        y.thing(0, 1, 0, 0);
        Due.text(y, COME, "w*20*(n<200)+!w*10*(n>199)");
        due.is("100, 120, 144, 172, 206 while open, then more if shut", y.when(0, 7), 4);
        y.open(0, 0);
        due.is("shut", y.when(0, 7), Due.STATE);
        due.areErrors("when", Due.BEYOND, y.when(1, 0), y.when(-1, 0), y.when(0, 41), y.when(0, -1));
        due.is("STATE is counted", y.told(3), 1);
    }

    private static void worth() {
        EmptyLand x = three();
        x.thing(1, 10, 0, 0);
        x.thing(2, 10, 0, 0);
        due.is("100 of 200 come to HAVEN", x.worth(0, 1), 100);
        due.is("now", x.worth(0, 0), 0);
        x.open(0, 0);
        due.is("though it is shut", x.worth(0, 1), 100);
        x.thing(2, 10, 0, 0);
        due.is("one of two", x.worth(1, 1), 0);
        Due.text(x, GO, "w*10");
        due.is("below 0", x.worth(1, 1), -30);
        due.areErrors("worth", Due.BEYOND, x.worth(3, 0), x.worth(-1, 0), x.worth(0, 41), x.worth(0, -1));
    }

    private static void promised() {
        EmptyLand x = three();
        x.thing(2, 10, 9999, 0);
        // Without: all shut, HAVEN is 0. With: HAVEN is 2 up to its year.
        due.is("a promise", x.promised(0, 0, 1), 300 + 50 + 100 - 250);
        due.is("by none", x.promised(0, 0, 0), 0);
        x.years(1);
        x.become(2, 0, 300);
        x.open(0, 1);
        due.is("a year that is over", x.promised(0, 0, 1), 0);
        x.promise(0, 199);
        due.is("whatever is promised now", x.promised(0, 0, 1), 0);
        due.is("up to this year", x.promised(0, 1, 1) > 0 ? 1 : 0, 1);
        x.open(0, 0);
        due.is("a promise doesn't open", x.promised(0, 199, 1), 0);
        due.areErrors("promised", Due.BEYOND, x.promised(1, 0, 0), x.promised(-1, 0, 0), x.promised(0, -1, 0),
            x.promised(0, 200, 0), x.promised(0, 0, 41), x.promised(0, 0, -1));
    }

    private static void edge() {
        EmptyLand x = still();
        x.village(0, 7, 0, 0);
        x.village(1, 50, 0, 0);
        x.thing(10, 0, 80, 2);
        x.thing(1, 0, 400, 0);
        x.thing(1, 0, 401, 0);
        due.is("30, with 50 near", x.edge(0, 1), 30);
        due.is("now", x.edge(0, 0), 0);
        due.is("400", x.edge(1, 3), 400);
        due.is("401", x.edge(2, 3), Due.NONE);
        x.promise(2, 2);
        due.is("promised for three", x.edge(2, 3), 0);
        due.is("promised for three of four", x.edge(2, 4), Due.NONE);
        x.open(0, 0);
        due.is("shut", x.edge(0, 0), Due.NONE);
        due.is("shut", x.edge(0, 5), Due.NONE);
        // More can be too many: the least is told.
        x.open(0, 1);
        Due.text(x, SHUT, "!(u=60|u=90)");
        due.is("the least of several", x.edge(0, 2), 10);
        due.areErrors("edge", Due.BEYOND, x.edge(3, 0), x.edge(-1, 0), x.edge(0, 41), x.edge(0, -1));
    }

    private static void site() {
        EmptyLand x = still();
        x.village(0, 10, 0, 0);
        x.village(10, 20, 0, 5);
        x.village(20, 5, 0, 5);
        x.thing(10, 0, 0, 20);
        x.thing(12, 0, 0, 0);
        x.thing(50, 0, 0, 5);
        x.thing(1, 0, 0, 0);
        x.thing(2, 0, 0, 0);
        x.thing(40, 0, 0, 20);
        x.thing(41, 0, 0, 0);
        due.is("in none of both", x.site(0, 1), 1);
        due.is("like the first, not the second", x.site(1, 0), 1);
        due.is("things", x.site(3, 4), 1);
        due.is("buses: of several the least", x.site(5, 6), 0);
        due.is("bus of no reach: all alike", x.site(6, 5), 0);
        x.become(1, 0, 0);
        x.become(2, 0, 10);
        due.is("all three by the middle", x.site(0, 1), 1);
        due.is("of several the least", x.site(1, 0), 0);
        due.is("school and wheels", x.site(0, 2), Due.KIND);
        due.areErrors("site", Due.BEYOND, x.site(0, 0), x.site(0, 7), x.site(7, 0), x.site(-1, 0), x.site(0, -1));
    }

    private static void join() {
        EmptyLand x = still();
        x.village(0, 10, 0, 0);
        x.village(10, 20, 0, 5);
        x.thing(10, 600, 7, 3);
        x.thing(11, 300, 8, 4);
        x.promise(0, 50);
        due.is("join", x.join(0, 1), 2);
        int[] want = {1, 1, 900, 7, 3, 1, -1};
        for (int what = 0; what < want.length; what++) {
            due.is("ofThing(2, " + what + ")", x.ofThing(2, what), want[what]);
        }
        due.is("the first is shut", x.ofThing(0, 5), 0);
        due.is("the second is shut", x.ofThing(1, 5), 0);
        due.is("its promise stays", x.ofThing(0, 6), 50);
        due.is("join", x.join(2, 1), 3);
        due.is("999 at most", x.ofThing(3, 2), 999);
        x.thing(50, 0, 0, 0);
        due.is("school and wheels", x.join(0, 4), Due.KIND);
        due.areErrors("join", Due.BEYOND, x.join(0, 0), x.join(0, 5), x.join(5, 0), x.join(-1, 0), x.join(0, -1));
        for (int i = 5; i < 10; i++) {
            x.thing(10, 0, 0, 0);
        }
        due.is("an eleventh", x.join(8, 9), Due.FULL);
        due.is("KIND ahead of FULL", x.join(8, 4), Due.KIND);
        due.is("both stay open", x.ofThing(8, 5) + x.ofThing(9, 5), 2);
        for (int kind = 0; kind <= 6; kind++) {
            EmptyLand y = still();
            y.village(0, 1, 1, 1);
            y.thing(10 * kind, 0, 0, 0);
            y.thing(10 * kind, 0, 0, 0);
            y.join(0, 1);
            due.is("kind " + kind, y.ofThing(2, 0), kind);
        }
    }

    private static void road() {
        EmptyLand x = new EmptyLand();
        due.is("no villages", x.road(1), Due.NONE);
        x = three();
        x.village(3000, 1, 0, 0);
        x.thing(1, 0, 0, 15);
        due.is("village 2 is of most people", x.road(1), 12);
        due.is("by none: the first", x.road(0), 1);
        x.mend(2, 1, 1);
        due.is("then village 0", x.road(1), 1);
        x.mend(0, 1, 1);
        due.is("then village 3", x.road(1), 13);
        x.mend(3, 1, 1);
        due.is("then none serves: the first", x.road(1), 2);
        x.mend(0, 2, 1);
        x.mend(0, 3, 1);
        due.is("the last", x.road(1), 23);
        x.mend(2, 3, 1);
        due.is("all are mended", x.road(1), Due.NONE);
        due.areErrors("road", Due.BEYOND, x.road(-1), x.road(41), x.road(Due.MAX));
        EmptyLand y = still();
        y.village(0, 1, 1, 1);
        due.is("one village", y.road(1), Due.NONE);
    }
}
