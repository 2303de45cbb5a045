import java.util.ArrayList;
import java.util.List;

/** The ERRORS: which is asked first, and that an act which answers one changes nothing but what told() tells. */
final class ErrorsTest {
    private static final Due due = new Due();

    private interface Act {
        int on(EmptyLand x);
    }

    private interface Maker {
        EmptyLand make();
    }

    public static void main(String[] args) {
        numbers();
        ordersOfTwo();
        ordersOfSheets();
        nothingChangesVillages();
        nothingChangesThings();
        nothingChangesTexts();
        nothingChangesAhead();
        nothingChangesTwoThings();
        nothingChangesSheets();
        nothingChangesWhereNothingIs();
        due.end();
    }

    private static void numbers() {
        due.says(0, "ERRORS are answers below -1000000000: LOW is -1000000000; LOW - 1 BEYOND, LOW - 2 NONE, LOW - 3 STATE, "
            + "LOW - 4 FULL, LOW - 5 KIND.");
        EmptyLand x = full();
        due.is("BEYOND", x.people(8, 0), -1000000001);
        due.is("NONE", x.villages(3), -1000000002);
        due.is("STATE", x.years(50), -1000000003);
        due.is("FULL", x.tell(0), -1000000004);
        due.is("KIND", x.as(0, 1), -1000000005);
        for (int k = 1; k <= 5; k++) {
            due.is("told(" + k + ")", x.told(k), 1);
        }
        // What isn't below LOW is no ERROR, and what a number of its own is below it isn't either.
        x.seed(-1000000000);
        due.is("LOW", x.count(8), -1000000000);
        x.seed(-1000000006);
        due.is("LOW - 6", x.count(8), -1000000006);
        for (int k = 1; k <= 5; k++) {
            due.is("told(" + k + ")", x.told(k), 1);
        }
    }

    /**
     * All is full: 8 VILLAGES, 10 THINGS (2 is shut), THE TAPE, the numbers that wait; NOW is 190;
     * SHEETS 0 to 2 of 8, 16, 32 bits, 3 is missing; the IMAGE is of a land without VILLAGES.
     */
    private static EmptyLand full() {
        EmptyLand x = new EmptyLand();
        x.seed(77);
        x.image();
        for (int i = 0; i < 8; i++) {
            x.village(100 * i + 2 * i, 10 + i, 20 + i, 30 + i);
        }
        for (int i = 0; i < 10; i++) {
            x.thing(10 * (i % 7) + i % 8, 3 * i, i, 5 * i);
        }
        x.open(2, 0);
        x.promise(1, 195);
        x.mend(0, 1, 1);
        x.mend(4, 6, 1);
        x.pace(3);
        Due.text(x, Lands.GO, "(s=0)*(w<9)");
        Due.text(x, Lands.COME, "n<70");
        Due.text(x, Lands.SHUT, "u*2<l");
        Lands.upTo(x, 190);
        x.rate(0, 4);
        x.rate(5, 12345);
        x.seed(99);
        for (int sheet = 0; sheet < 3; sheet++) {
            x.sheet(sheet, 8 << sheet, 8);
            Lands.put(x, sheet, 1 + sheet, 2, 3, 4, 5, 6, 7, 8);
        }
        x.voice(6, 3, 1);
        Due.feed(x, "u>l*2|c+1=3&y<99|(u+1)*(l+2)-(c+3)/(y+4)=1111|!u+7");
        tellOrder(x);
        return x;
    }

    /** The VILLAGES as they are due now, and more behind them, up to 20. */
    private static void tellOrder(EmptyLand x) {
        List<Integer> order = new ArrayList<>();
        for (int i = 0; i < x.count(1); i++) {
            order.add(i);
        }
        order.sort((a, b) -> x.people(b, 3) - x.people(a, 3));
        for (int number : order) {
            x.tell(number);
        }
        for (int i = order.size(); i < 20; i++) {
            x.tell(i);
        }
    }

    /** All that calls can tell of a land but told(), asked in a way that changes it. */
    private static List<Integer> probe(EmptyLand x) {
        List<Integer> seen = new ArrayList<>();
        for (int what = 0; what <= 8; what++) {
            seen.add(x.count(what));
        }
        for (int i = 0; i < 10; i++) {
            seen.add(x.trace(i));
            for (int sort = 0; sort <= 4; sort++) {
                seen.add(x.people(i, sort));
            }
            for (int what = 0; what <= 9; what++) {
                seen.add(x.ofThing(i, what));
            }
            for (int other = 0; other < i; other++) {
                seen.add(x.way(i, other));
            }
        }
        for (int what = 0; what <= 3; what++) {
            seen.add(x.left(3, what));
        }
        probeTextsAndRates(x, seen);
        seen.add(x.restore());
        for (int sheet = 0; sheet < 4; sheet++) {
            seen.add(x.villages(sheet));
        }
        for (int i = 0; i < 8; i++) {
            for (int sort = 0; sort <= 4; sort++) {
                seen.add(x.people(i, sort));
            }
        }
        probeTextsAndRates(x, seen);
        seen.add(x.image());
        return seen;
    }

    private static void probeTextsAndRates(EmptyLand x, List<Integer> seen) {
        for (int use = 0; use < 3; use++) {
            for (int a = 0; a < 6; a++) {
                seen.add(x.law(use, a, a * a, 7 * a));
            }
        }
        seen.add(x.text(0));
        for (int a = 0; a < 6; a++) {
            seen.add(x.law(0, a, a * a, 7 * a));
        }
        seen.add(x.check(0));
        for (int rate = 0; rate < 6; rate++) {
            seen.add(x.rate(rate, 0));
        }
        seen.add(x.pace(1));
        seen.add(x.seed(1));
    }

    /** The act answers the ERROR; all is then as on a twin on which it wasn't done, but for one more told. */
    private static void same(String call, Maker maker, int error, Act act) {
        EmptyLand x = maker.make();
        EmptyLand twin = maker.make();
        due.is(call, act.on(x), error);
        for (int k = 1; k <= 5; k++) {
            due.is(call + ": told " + k, x.told(k), twin.told(k) + (Due.LOW - k == error ? 1 : 0));
        }
        List<Integer> got = probe(x);
        List<Integer> want = probe(twin);
        for (int i = 0; i < want.size(); i++) {
            due.is(call + ": what is there, " + i, got.get(i), want.get(i));
        }
    }

    private static void beyond(String call, Act act) {
        same(call, ErrorsTest::full, Due.BEYOND, act);
    }

    private static void saysNothingChanges() {
        due.says(0, "one that answers an ERROR changes nothing but what told() tells.");
    }

    private static void nothingChangesVillages() {
        saysNothingChanges();
        beyond("village: place", x -> x.village(31, 1, 1, 1));
        beyond("village: OLD", x -> x.village(0, 1, 1, 100000));
        same("village", ErrorsTest::full, Due.FULL, x -> x.village(0, 1, 1, 1));
        beyond("people: VILLAGE", x -> x.people(8, 0));
        beyond("people: SORT", x -> x.people(0, 5));
        beyond("become: VILLAGE", x -> x.become(8, 0, 1));
        beyond("become: SORT", x -> x.become(0, 3, 1));
        beyond("become: v", x -> x.become(0, 0, 100000));
        beyond("villages", x -> x.villages(4));
        same("villages", ErrorsTest::full, Due.NONE, x -> x.villages(3));
        beyond("made", x -> x.made(9));
        same("made", ErrorsTest::full, Due.FULL, x -> x.made(1));
        beyond("pace", x -> x.pace(10));
        beyond("way", x -> x.way(0, 8));
        beyond("mend: VILLAGE", x -> x.mend(0, 8, 1));
        beyond("mend: one and the same", x -> x.mend(3, 3, 1));
        beyond("mend: is", x -> x.mend(0, 2, 2));
    }

    private static void nothingChangesThings() {
        saysNothingChanges();
        beyond("thing: KIND", x -> x.thing(70, 1, 1, 1));
        beyond("thing: REACH", x -> x.thing(0, 1, 1, 301));
        same("thing", ErrorsTest::full, Due.FULL, x -> x.thing(0, 1, 1, 1));
        beyond("ofThing: THING", x -> x.ofThing(10, 0));
        beyond("ofThing: what", x -> x.ofThing(0, 10));
        beyond("as", x -> x.as(0, 7));
        same("as", ErrorsTest::full, Due.KIND, x -> x.as(0, 1));
        beyond("open: THING", x -> x.open(10, 0));
        beyond("open: is", x -> x.open(0, 2));
        beyond("promise: THING", x -> x.promise(10, 0));
        beyond("promise: YEAR", x -> x.promise(0, 200));
        beyond("comfort", x -> x.comfort(8));
    }

    private static void nothingChangesTexts() {
        saysNothingChanges();
        beyond("feed", x -> x.feed(0x31, 0));
        same("feed", ErrorsTest::full, Due.FULL, x -> x.feed(0x31, 1));
        beyond("text", x -> x.text(3));
        beyond("law", x -> x.law(3, 0, 0, 0));
        beyond("rate: RATE", x -> x.rate(6, 0));
        beyond("rate: v", x -> x.rate(0, 21));
        beyond("years", x -> x.years(51));
        same("years", ErrorsTest::full, Due.STATE, x -> x.years(10));
    }

    private static void nothingChangesAhead() {
        saysNothingChanges();
        beyond("left: n", x -> x.left(41, 0));
        beyond("left: what", x -> x.left(5, 4));
        beyond("then", x -> x.then(5, 8, 0));
        beyond("falls", x -> x.falls(8, 5));
        same("falls", ErrorsTest::full, Due.NONE, x -> x.falls(7, 5));
        beyond("broke", x -> x.broke(41));
        same("broke", ErrorsTest::full, Due.NONE, x -> x.broke(5));
        beyond("rest", x -> x.rest(0));
        same("rest", () -> {
            EmptyLand x = full();
            x.become(0, 0, 90000);
            return x;
        }, Due.NONE, x -> x.rest(2));
        beyond("keep: c", x -> x.keep(10000, 5, 0));
        beyond("keep: n", x -> x.keep(5, 41, 0));
        beyond("keep: what", x -> x.keep(5, 5, 2));
        beyond("when", x -> x.when(10, 5));
        same("when", ErrorsTest::full, Due.STATE, x -> x.when(2, 5));
        beyond("worth", x -> x.worth(10, 5));
        beyond("promised", x -> x.promised(0, 200, 5));
        beyond("edge", x -> x.edge(0, 41));
        same("edge: shut", ErrorsTest::full, Due.NONE, x -> x.edge(2, 5));
        same("edge: too few", () -> {
            EmptyLand x = full();
            Due.text(x, 0, "");
            Due.text(x, 0, "u+9>u");
            return x;
        }, Due.NONE, x -> x.edge(3, 5));
        beyond("road", x -> x.road(41));
    }

    private static void nothingChangesTwoThings() {
        saysNothingChanges();
        beyond("site: twice", x -> x.site(0, 0));
        beyond("site", x -> x.site(0, 10));
        same("site", ErrorsTest::full, Due.KIND, x -> x.site(0, 1));
        beyond("join: twice", x -> x.join(0, 0));
        beyond("join", x -> x.join(10, 0));
        same("join", ErrorsTest::full, Due.KIND, x -> x.join(0, 1));
        same("join", ErrorsTest::full, Due.FULL, x -> x.join(0, 7));
    }

    private static void nothingChangesSheets() {
        saysNothingChanges();
        beyond("voice: THING", x -> x.voice(10, 0, 0));
        beyond("voice: VOICE", x -> x.voice(0, 4, 0));
        same("trace", ErrorsTest::full, Due.NONE, x -> x.trace(9));
        beyond("sheet: SHEET", x -> x.sheet(4, 8, 8));
        beyond("sheet: bits", x -> x.sheet(0, 9, 8));
        beyond("sheet: n", x -> x.sheet(0, 8, 41));
        same("sheet", ErrorsTest::full, Due.STATE, x -> x.sheet(0, 8, -1));
        beyond("put: SHEET", x -> x.put(4, 0, 9));
        same("put", ErrorsTest::full, Due.NONE, x -> x.put(3, 0, 9));
        beyond("put: number", x -> x.put(0, 8, 9));
        beyond("move: SHEET", x -> x.move(0, 0, 4, 0, 1));
        same("move", ErrorsTest::full, Due.NONE, x -> x.move(0, 0, 3, 0, 1));
        same("move", ErrorsTest::full, Due.KIND, x -> x.move(0, 0, 1, 0, 1));
        beyond("move: numbers", x -> x.move(0, 1, 0, 0, 8));
        same("tell", ErrorsTest::full, Due.FULL, x -> x.tell(9));
        beyond("count", x -> x.count(9));
        beyond("told", x -> x.told(6));
        same("check, but for those who wait", () -> {
            EmptyLand x = full();
            x.check(0);
            return x;
        }, Due.BEYOND, x -> x.check(41));
    }

    private static void nothingChangesWhereNothingIs() {
        saysNothingChanges();
        same("haven", EmptyLand::new, Due.NONE, EmptyLand::haven);
        same("road", EmptyLand::new, Due.NONE, x -> x.road(1));
        same("broke", EmptyLand::new, Due.NONE, x -> x.broke(40));
        same("restore", EmptyLand::new, Due.NONE, EmptyLand::restore);
        same("trace", EmptyLand::new, Due.NONE, x -> x.trace(0));
        same("villages", EmptyLand::new, Due.NONE, x -> x.villages(0));
        same("thing", EmptyLand::new, Due.BEYOND, x -> x.thing(0, 0, 0, 0));
    }

    private static void ordersOfTwo() {
        due.says(0, "Each act tells its ERRORS in the order in which they are asked;");
        EmptyLand x = full();
        due.is("village: BEYOND, FULL", x.village(-1, 0, 0, 0), Due.BEYOND);
        due.is("made: BEYOND, FULL", x.made(0), Due.BEYOND);
        due.is("thing: BEYOND, FULL", x.thing(8, 0, 0, 0), Due.BEYOND);
        due.is("as: BEYOND, KIND", x.as(1, 7), Due.BEYOND);
        due.is("feed: BEYOND, FULL", x.feed(0, 9), Due.BEYOND);
        due.is("years: BEYOND, STATE", x.years(51), Due.BEYOND);
        due.is("falls: BEYOND, NONE", x.falls(0, 41), Due.BEYOND);
        due.is("broke: BEYOND, NONE", x.broke(41), Due.BEYOND);
        due.is("rest: BEYOND, NONE", x.rest(41), Due.BEYOND);
        due.is("when: BEYOND, STATE", x.when(2, 41), Due.BEYOND);
        due.is("edge: BEYOND, NONE", x.edge(2, 41), Due.BEYOND);
        due.is("site: BEYOND, KIND", x.site(10, 0), Due.BEYOND);
        due.is("join: BEYOND, KIND, FULL", x.join(0, 10), Due.BEYOND);
        due.is("join: BEYOND, FULL", x.join(0, 0), Due.BEYOND);
        due.is("join: KIND, FULL", x.join(0, 1), Due.KIND);
        due.is("join: FULL", x.join(0, 7), Due.FULL);
        due.is("road: BEYOND, NONE", new EmptyLand().road(41), Due.BEYOND);
        due.is("BEYOND is told", x.told(1), 14);
    }

    private static void ordersOfSheets() {
        due.says(0, "Each act tells its ERRORS in the order in which they are asked;");
        EmptyLand x = full();
        due.is("sheet: BEYOND, STATE", x.sheet(4, 8, -1), Due.BEYOND);
        due.is("sheet: BEYOND of bits, STATE", x.sheet(0, 4, -1), Due.BEYOND);
        due.is("sheet: STATE, BEYOND of n", x.sheet(0, 8, -41), Due.STATE);
        due.is("put: BEYOND, BEYOND", x.put(4, 40, 0), Due.BEYOND);
        due.is("put: NONE, BEYOND", x.put(3, 40, 0), Due.NONE);
        due.is("move: BEYOND, NONE", x.move(3, 0, 4, 0, 0), Due.BEYOND);
        due.is("move: NONE, KIND", x.move(3, 0, 0, 0, 0), Due.NONE);
        due.is("move: NONE, BEYOND", x.move(0, -1, 3, 0, 0), Due.NONE);
        due.is("move: KIND, BEYOND", x.move(0, -1, 1, 0, 0), Due.KIND);
        due.is("move: BEYOND", x.move(0, -1, 0, 0, 0), Due.BEYOND);
    }
}
