/** Each sentence of Terms 1 on things, and of promises 10 to 16, with its edges and what is beside them. */
final class EdgesThingsTest {
    private static final Due due = new Due();
    private static final int WHEELS = 5;

    public static void main(String[] args) {
        atMostTen();
        kinds();
        numbersOfAThing();
        openAtFirst();
        promiseOfAThing();
        serves();
        servesFar();
        servesWhatComesLater();
        usersOfOne();
        usersOfTwo();
        gives();
        comfortOfOpenOnes();
        havenOfSeveral();
        thing();
        thingFull();
        ofThing();
        as();
        open();
        promise();
        comfort();
        haven();
        due.end();
    }

    private static void atMostTen() {
        due.says(0, "THINGS 0, 1, .. (at most 10)");
        EmptyLand x = Lands.alike(1, 0);
        for (int i = 0; i < 10; i++) {
            due.is("THING " + i, x.thing(0, i, 0, 0), i);
        }
        due.is("an eleventh", x.thing(0, 0, 0, 0), Due.FULL);
        due.is("the tenth", x.ofThing(9, 2), 9);
        due.is("no eleventh", x.ofThing(10, 2), Due.BEYOND);
    }

    private static void kinds() {
        due.says(0, "of KINDS 0 THING; 1 SCHOOL, 2 SHOP, 4 BUS under THING; 3 DOCTOR under SHOP; 5 WHEELS under SCHOOL; "
            + "6 BRIDGE under BUS; each in a VILLAGE,");
        String[] under = {"0", "01", "02", "023", "04", "015", "046"};
        EmptyLand x = Lands.alike(2, 0);
        for (int kind = 0; kind <= 6; kind++) {
            x.thing(10 * kind + kind % 2, 0, 7, 0);
            due.is("KIND", x.ofThing(kind, 0), kind);
            due.is("VILLAGE", x.ofThing(kind, 1), kind % 2);
            for (int as = 0; as <= 6; as++) {
                boolean is = under[kind].indexOf('0' + as) >= 0;
                due.is(kind + " as " + as, x.as(kind, as), is ? 7 : Due.KIND);
            }
        }
    }

    private static void numbersOfAThing() {
        due.says(0, "with a COST (0 to 999), a LEAST (0 to 9999), a REACH (0 to 300);");
        EmptyLand x = Lands.alike(1, 0);
        int[] most = {999, 9999, 300};
        for (int i = 0; i < 3; i++) {
            int[] is = new int[3];
            is[i] = most[i];
            due.is("the most", x.thing(0, is[0], is[1], is[2]), i);
            due.is("it has it", x.ofThing(i, 2 + i), most[i]);
            is[i] = most[i] + 1;
            due.is("more", x.thing(0, is[0], is[1], is[2]), Due.BEYOND);
            is[i] = -1;
            due.is("less", x.thing(0, is[0], is[1], is[2]), Due.BEYOND);
        }
        due.is("the least", x.thing(0, 0, 0, 0), 3);
        due.is("COST 0", x.ofThing(3, 2) + x.ofThing(3, 3) + x.ofThing(3, 4), 0);
    }

    private static void openAtFirst() {
        due.says(0, "open (at first) or shut;");
        EmptyLand x = Lands.alike(1, 1);
        due.is("open", x.ofThing(0, 5), 1);
        x.open(0, 0);
        due.is("shut", x.ofThing(0, 5), 0);
        x.thing(0, 0, 0, 0);
        due.is("another is open", x.ofThing(1, 5), 1);
        due.is("the first isn't", x.ofThing(0, 5), 0);
    }

    private static void promiseOfAThing() {
        due.says(0, "with a PROMISE (a YEAR up to which it isn't shut by the year's rule; -1, none, at first).");
        EmptyLand x = Lands.still(0, 1, 1, 1);
        x.thing(0, 0, 9999, 0);
        due.is("none at first", x.ofThing(0, 6), -1);
        due.is("none: shut in YEAR 0", x.left(1, 2), 0);
        x.promise(0, 0);
        due.is("up to 0: not in 0", x.left(1, 2), 1);
        due.is("up to 0: in 1", x.left(2, 2), 0);
        x.promise(0, 39);
        due.is("up to 39: not in 39", x.left(40, 2), 1);
        x.promise(0, 38);
        due.is("up to 38: in 39", x.left(40, 2), 0);
        x.promise(0, 199);
        Lands.upTo(x, 199);
        due.is("up to 199: not in 199", x.left(1, 2), 1);
        due.is("up to 199: in 200", x.left(2, 2), 0);
        x.open(0, 0);
        due.is("shut by a call, whatever is promised", x.ofThing(0, 5), 0);
    }

    private static void serves() {
        due.says(0, "It SERVES a VILLAGE if WAY to that is its SPAN or less: SPAN is REACH, of WHEELS twice that.");
        for (int kind = 0; kind <= 6; kind++) {
            EmptyLand x = Lands.of(0, 1, 1, 1, 5, 1, 1, 1);
            int even = kind == WHEELS ? 5 : 10;
            x.thing(10 * kind, 0, 0, even - 1);
            x.thing(10 * kind, 0, 0, even);
            x.thing(10 * kind + 1, 0, 0, even);
            x.thing(10 * kind, 0, 0, 0);
            due.is("less than WAY: of KIND " + kind, x.ofThing(0, 9), 1);
            due.is("as much as WAY: of KIND " + kind, x.ofThing(1, 9), 3);
            due.is("from the other: of KIND " + kind, x.ofThing(2, 9), 3);
            due.is("its own with REACH 0: of KIND " + kind, x.ofThing(3, 9), 1);
            x.mend(0, 1, 1);
            x.pace(4);
            due.is("WAY of 10 again: of KIND " + kind, x.ofThing(0, 9) * 10 + x.ofThing(1, 9), 13);
            x.pace(3);
            due.is("WAY of 7: of KIND " + kind, x.ofThing(0, 9), 3);
            x.mend(0, 1, 0);
            due.is("WAY of 15: of KIND " + kind, x.ofThing(1, 9), 1);
        }
    }

    private static void servesFar() {
        due.says(0, "SPAN is REACH, of WHEELS twice that.");
        EmptyLand x = Lands.of(0, 1, 1, 1, 3030, 1, 1, 1, 0, 1, 1, 1);
        x.pace(9);
        x.thing(50, 0, 0, 270);
        x.thing(50, 0, 0, 269);
        x.thing(10, 0, 0, 300);
        due.is("twice 270", x.ofThing(0, 9), 7);
        due.is("twice 269", x.ofThing(1, 9), 5);
        due.is("300 of 540", x.ofThing(2, 9), 5);
        x.pace(5);
        due.is("300 of 300", x.ofThing(2, 9), 7);
    }

    private static void servesWhatComesLater() {
        due.says(0, "It SERVES a VILLAGE if WAY to that is its SPAN or less");
        EmptyLand x = Lands.of(0, 1, 1, 1);
        x.thing(10, 0, 0, 2);
        x.village(1, 5, 0, 0);
        x.village(2, 5, 0, 0);
        due.is("by village()", x.ofThing(0, 9), 3);
        x.sheet(0, 8, 4);
        x.villages(0);
        due.is("by villages()", x.ofThing(0, 9), 11);
        x.seed(0);
        x.made(4);
        int near = 11;
        for (int i = 4; i < 8; i++) {
            near |= x.way(0, i) <= 2 ? 1 << i : 0;
        }
        due.is("by made()", x.ofThing(0, 9), near);
        x.pace(1);
        due.is("by a lesser PACE", x.ofThing(0, 9) & 15, 15);
    }

    /** Users of a THING of each KIND in VILLAGE 1; the others are at WAYS 2 (0), 2 (2), 4 (3). */
    private static void users(int reach, int... want) {
        EmptyLand x = Lands.of(0, 1, 10, 100, 1, 2, 20, 200, 2, 4, 40, 400, 3, 8, 80, 800);
        for (int kind = 0; kind <= 6; kind++) {
            x.thing(10 * kind + 1, 0, 0, reach);
            due.is("USERS of KIND " + kind + " by " + reach, x.ofThing(kind, 7), want[kind]);
        }
    }

    private static void usersOfOne() {
        due.says(0, "USERS: THING: all PEOPLE of its own VILLAGE. SCHOOL: YOUNG of VILLAGES it SERVES. SHOP: all PEOPLE of these. "
            + "DOCTOR: as SHOP, less GROWN of its own VILLAGE. BUS: GROWN and OLD of VILLAGES it SERVES, but its own. "
            + "WHEELS: as SCHOOL. BRIDGE: as BUS, and all of its own VILLAGE.");
        users(0, 222, 2, 222, 202, 0, 2, 222);
        users(1, 222, 2, 222, 202, 0, 7, 222);
        users(2, 222, 7, 777, 757, 550, 15, 772);
        users(3, 222, 7, 777, 757, 550, 15, 772);
        users(4, 222, 15, 1665, 1645, 1430, 15, 1652);
        users(300, 222, 15, 1665, 1645, 1430, 15, 1652);
    }

    private static void usersOfTwo() {
        due.says(0, "BUS: GROWN and OLD of VILLAGES it SERVES, but its own.");
        EmptyLand x = Lands.of(0, 1, 10, 100, 0, 2, 20, 200);
        x.thing(40, 0, 0, 0);
        due.is("another at the same place", x.ofThing(0, 7), 220);
        x.open(0, 0);
        due.is("though it is shut", x.ofThing(0, 7), 220);
        x.become(1, 1, 99999);
        x.become(1, 2, 99999);
        due.is("as many as are there", x.ofThing(0, 7), 199998);
    }

    private static void gives() {
        due.says(0, "GIVES: THING 1; SCHOOL 5; SHOP 3; DOCTOR 2 more than SHOP; BUS twice a THING's; WHEELS 1 less than SCHOOL; "
            + "BRIDGE 1 more than BUS.");
        int[] want = {1, 5, 3, 5, 2, 4, 3};
        for (int kind = 0; kind <= 6; kind++) {
            EmptyLand x = Lands.alike(1, 0);
            x.thing(10 * kind, 0, 0, 0);
            due.is("GIVES of KIND " + kind, x.ofThing(0, 8), want[kind]);
            due.is("COMFORT by KIND " + kind, x.comfort(0), want[kind]);
            x.open(0, 0);
            due.is("though it is shut", x.ofThing(0, 8), want[kind]);
        }
    }

    private static void comfortOfOpenOnes() {
        due.says(0, "COMFORT of a VILLAGE: what all open THINGS that SERVE it GIVE.");
        EmptyLand x = Lands.of(0, 1, 1, 1, 5, 1, 1, 1);
        due.is("no THINGS", x.comfort(0), 0);
        x.thing(10, 0, 0, 10);
        x.thing(21, 0, 0, 9);
        x.thing(0, 0, 0, 10);
        due.is("of two", x.comfort(0), 6);
        due.is("of three", x.comfort(1), 9);
        x.open(0, 0);
        due.is("of open ones", x.comfort(0) * 10 + x.comfort(1), 14);
        x.open(0, 1);
        x.pace(3);
        due.is("of those that SERVE it", x.comfort(0) * 10 + x.comfort(1), 63);
    }

    private static void havenOfSeveral() {
        due.says(0, "HAVEN: the VILLAGE of most COMFORT, of several the least.");
        EmptyLand x = Lands.of(0, 1, 1, 1, 10, 1, 1, 1, 20, 9, 9, 9);
        due.is("of three of none", x.haven(), 0);
        x.thing(2, 0, 0, 0);
        due.is("the last", x.haven(), 2);
        x.thing(1, 0, 0, 0);
        due.is("of two", x.haven(), 1);
        x.thing(0, 0, 0, 0);
        due.is("of three", x.haven(), 0);
        x.thing(12, 0, 0, 0);
        due.is("more", x.haven(), 2);
        x.open(3, 0);
        due.is("of open ones", x.haven(), 0);
    }

    private static void thing() {
        due.says(10, "A THING: its number. kv: 10 * KIND, and the VILLAGE. BEYOND: KIND, VILLAGE, COST, LEAST, REACH.");
        EmptyLand x = Lands.alike(8, 0);
        due.is("KIND 6, VILLAGE 7", x.thing(67, 1, 2, 3), 0);
        due.is("KIND 0, VILLAGE 0", x.thing(0, 1, 2, 3), 1);
        due.is("KIND", x.ofThing(0, 0) * 10 + x.ofThing(0, 1), 67);
        due.areErrors("KIND", Due.BEYOND, x.thing(70, 0, 0, 0), x.thing(77, 0, 0, 0), x.thing(-1, 0, 0, 0), x.thing(-9, 0, 0, 0),
            x.thing(-10, 0, 0, 0), x.thing(100, 0, 0, 0), x.thing(Due.MIN, 0, 0, 0), x.thing(Due.MAX, 0, 0, 0));
        due.areErrors("VILLAGE", Due.BEYOND, x.thing(8, 0, 0, 0), x.thing(9, 0, 0, 0), x.thing(68, 0, 0, 0), x.thing(69, 0, 0, 0));
        due.areErrors("VILLAGE of seven", Due.BEYOND, Lands.alike(7, 0).thing(7, 0, 0, 0));
        due.areErrors("no VILLAGES", Due.BEYOND, new EmptyLand().thing(0, 0, 0, 0));
        due.areErrors("COST", Due.BEYOND, x.thing(0, 1000, 0, 0), x.thing(0, -1, 0, 0));
        due.areErrors("LEAST", Due.BEYOND, x.thing(0, 0, 10000, 0), x.thing(0, 0, -1, 0));
        due.areErrors("REACH", Due.BEYOND, x.thing(0, 0, 0, 301), x.thing(0, 0, 0, -1));
        due.is("none came", x.count(2), 2);
    }

    private static void thingFull() {
        due.says(10, "REACH. FULL.");
        EmptyLand x = Lands.alike(1, 9);
        due.is("the tenth", x.thing(0, 0, 0, 0), 9);
        due.is("an eleventh", x.thing(0, 0, 0, 0), Due.FULL);
        due.areErrors("BEYOND first", Due.BEYOND, x.thing(70, 0, 0, 0), x.thing(1, 0, 0, 0), x.thing(0, 1000, 0, 0),
            x.thing(0, 0, 10000, 0), x.thing(0, 0, 0, 301));
        due.is("THINGS", x.count(2), 10);
    }

    private static void ofThing() {
        due.says(11, "Of a THING: 0 KIND, 1 VILLAGE, 2 COST, 3 LEAST, 4 REACH, 5 1 if it is open, else 0, 6 PROMISE, 7 USERS, "
            + "8 what it GIVES, 9 VILLAGES that it SERVES, as bits (shut or not). BEYOND.");
        EmptyLand x = Lands.of(0, 3, 4, 5, 2, 6, 7, 8, 1, 1, 1, 1);
        x.thing(11, 21, 31, 4);
        x.promise(0, 77);
        int[] want = {Due.BEYOND, 1, 1, 21, 31, 4, 1, 77, 10, 5, 7, Due.BEYOND};
        for (int what = -1; what <= 10; what++) {
            due.is("what " + what, x.ofThing(0, what), want[what + 1]);
        }
        x.open(0, 0);
        want[6] = 0;
        for (int what = -1; what <= 10; what++) {
            due.is("shut, what " + what, x.ofThing(0, what), want[what + 1]);
        }
        due.areErrors("THING", Due.BEYOND, x.ofThing(-1, 0), x.ofThing(1, 0), x.ofThing(Due.MIN, 5), x.ofThing(Due.MAX, 9));
        EmptyLand eight = Lands.alike(8, 1);
        due.is("eight, as bits", eight.ofThing(0, 9), 255);
    }

    private static void as() {
        due.says(12, "A THING as one of a KIND: its LEAST. BEYOND. KIND: it isn't of that KIND, nor of one under it.");
        EmptyLand x = Lands.alike(1, 0);
        x.thing(20, 1, 9999, 3);
        x.thing(30, 1, 0, 3);
        due.is("of that KIND", x.as(0, 2), 9999);
        due.is("of one under it", x.as(1, 2), 0);
        due.is("of one above it", x.as(0, 3), Due.KIND);
        due.is("of one beside it", x.as(1, 1), Due.KIND);
        due.areErrors("KIND", Due.BEYOND, x.as(0, -1), x.as(0, 7), x.as(0, Due.MIN));
        due.areErrors("THING", Due.BEYOND, x.as(-1, 0), x.as(2, 0), x.as(2, 3));
    }

    private static void open() {
        due.says(13, "A THING is open (1), shut (0): what it was. BEYOND.");
        EmptyLand x = Lands.alike(1, 10);
        due.is("open again", x.open(9, 1), 1);
        due.is("shut", x.open(9, 0), 1);
        due.is("shut again", x.open(9, 0), 0);
        due.areErrors("is", Due.BEYOND, x.open(9, 2), x.open(9, -1), x.open(9, Due.MIN));
        due.areErrors("THING", Due.BEYOND, x.open(10, 0), x.open(-1, 0), x.open(32, 0));
        due.is("others stay", x.count(3), 9);
        due.is("open", x.open(9, 1), 0);
        due.is("all", x.count(3), 10);
    }

    private static void promise() {
        due.says(14, "PROMISE of a THING (-1 to 199) becomes so: what it was. BEYOND.");
        EmptyLand x = Lands.alike(1, 2);
        due.is("199", x.promise(1, 199), -1);
        due.areErrors("YEAR", Due.BEYOND, x.promise(1, 200), x.promise(1, -2), x.promise(1, Due.MIN), x.promise(1, Due.MAX));
        due.is("-1", x.promise(1, -1), 199);
        due.is("0", x.promise(1, 0), -1);
        due.is("so it is", x.ofThing(1, 6), 0);
        due.is("another's stays", x.ofThing(0, 6), -1);
        due.areErrors("THING", Due.BEYOND, x.promise(2, 0), x.promise(-1, 0));
    }

    private static void comfort() {
        due.says(15, "COMFORT of a VILLAGE. BEYOND.");
        EmptyLand x = Lands.alike(2, 10);
        due.is("of ten", x.comfort(1), 10);
        due.areErrors("VILLAGE", Due.BEYOND, x.comfort(2), x.comfort(-1), x.comfort(Due.MIN));
    }

    private static void haven() {
        due.says(16, "HAVEN. NONE: there are no VILLAGES.");
        EmptyLand x = new EmptyLand();
        due.is("none", x.haven(), Due.NONE);
        x.village(0, 0, 0, 0);
        due.is("one, of no PEOPLE and no THINGS", x.haven(), 0);
    }
}
