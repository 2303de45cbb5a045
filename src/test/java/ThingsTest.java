/** Promises 10 to 16: things, what they are, whom they serve, what they give. */
final class ThingsTest {
    private static final Due due = new Due();

    public static void main(String[] args) {
        thing();
        ofThing();
        usersOfEachKind();
        spanOfWheels();
        as();
        open();
        promise();
        comfort();
        haven();
        due.end();
    }

    /** Three in a row, WAYS 2 and 4 from the first. */
    private static EmptyLand threeVillages() {
        EmptyLand x = new EmptyLand();
        x.village(0, 1, 20, 300);
        x.village(1, 4, 50, 600);
        x.village(2, 7, 80, 900);
        return x;
    }

    private static void thing() {
        EmptyLand x = new EmptyLand();
        due.is("no village", x.thing(10, 0, 0, 0), Due.BEYOND);
        x = threeVillages();
        due.is("thing", x.thing(62, 999, 9999, 300), 0);
        due.is("thing", x.thing(0, 0, 0, 0), 1);
        due.areErrors("thing", Due.BEYOND,
            x.thing(70, 0, 0, 0), x.thing(3, 0, 0, 0), x.thing(69, 0, 0, 0), x.thing(-1, 0, 0, 0), x.thing(-10, 0, 0, 0),
            x.thing(Due.MIN, 0, 0, 0), x.thing(Due.MAX, 0, 0, 0), x.thing(0, -1, 0, 0), x.thing(0, 1000, 0, 0),
            x.thing(0, 0, -1, 0), x.thing(0, 0, 10000, 0), x.thing(0, 0, 0, -1), x.thing(0, 0, 0, 301));
        due.is("things", x.count(2), 2);
        for (int i = 2; i < 10; i++) {
            due.is("thing " + i, x.thing(10, 0, 0, 0), i);
        }
        due.is("an eleventh", x.thing(10, 0, 0, 0), Due.FULL);
        due.is("BEYOND ahead of FULL", x.thing(70, 0, 0, 0), Due.BEYOND);
        due.is("things", x.count(2), 10);
        due.is("open ones", x.count(3), 10);
    }

    private static void ofThing() {
        EmptyLand x = threeVillages();
        x.thing(21, 12, 345, 2);
        int[] want = {2, 1, 12, 345, 2, 1, -1, 321 + 654 + 987, 3, 7};
        for (int what = 0; what < want.length; what++) {
            due.is("ofThing(0, " + what + ")", x.ofThing(0, what), want[what]);
        }
        x.open(0, 0);
        x.promise(0, 17);
        due.is("shut", x.ofThing(0, 5), 0);
        due.is("promise", x.ofThing(0, 6), 17);
        due.is("serves, though shut", x.ofThing(0, 9), 7);
        due.is("users, though shut", x.ofThing(0, 7), 1962);
        x.village(3, 0, 0, 1);
        due.is("a village that comes later", x.ofThing(0, 9), 7);
        x.village(1, 0, 0, 1);
        due.is("a village that comes later, near", x.ofThing(0, 9), 23);
        due.areErrors("ofThing", Due.BEYOND,
            x.ofThing(1, 0), x.ofThing(-1, 0), x.ofThing(0, 10), x.ofThing(0, -1), x.ofThing(Due.MIN, Due.MAX));
    }

    private static void usersOfEachKind() {
        EmptyLand x = threeVillages();
        x.mend(0, 1, 1);
        // From village 1 village 0 is within 1; village 2 is within 2, and so near for WHEELS alone.
        int[] users = {654, 1 + 4, 321 + 654, 321 + 654 - 50, 20 + 300, 1 + 4 + 7, 20 + 300 + 654};
        int[] serves = {3, 3, 3, 3, 3, 7, 3};
        int[] gives = {1, 5, 3, 5, 2, 4, 3};
        for (int kind = 0; kind <= 6; kind++) {
            x.thing(10 * kind + 1, 0, 0, 1);
            due.is("kind", x.ofThing(kind, 0), kind);
            due.is("users of kind " + kind, x.ofThing(kind, 7), users[kind]);
            due.is("gives of kind " + kind, x.ofThing(kind, 8), gives[kind]);
            due.is("serves of kind " + kind, x.ofThing(kind, 9), serves[kind]);
        }
    }

    private static void spanOfWheels() {
        EmptyLand x = threeVillages();
        x.thing(50, 0, 0, 1);
        x.thing(10, 0, 0, 1);
        x.thing(50, 0, 0, 2);
        x.thing(10, 0, 0, 4);
        due.is("wheels of 1", x.ofThing(0, 9), 3);
        x.pace(3);
        due.is("wheels of 1, way 3", x.ofThing(0, 9), 1);
        x.pace(2);
        due.is("school of 1", x.ofThing(1, 9), 1);
        due.is("wheels of 2", x.ofThing(2, 9), 7);
        due.is("school of 4", x.ofThing(3, 9), 7);
        due.is("reach stays", x.ofThing(2, 4), 2);
    }

    private static void as() {
        EmptyLand x = threeVillages();
        // Bits of the KINDS that a thing of each KIND is of.
        int[] of = {1, 1 | 2, 1 | 4, 1 | 4 | 8, 1 | 16, 1 | 2 | 32, 1 | 16 | 64};
        for (int kind = 0; kind <= 6; kind++) {
            x.thing(10 * kind, 0, 100 + kind, 0);
            for (int as = 0; as <= 6; as++) {
                boolean is = (of[kind] >> as & 1) != 0;
                due.is("as(" + kind + ", " + as + ")", x.as(kind, as), is ? 100 + kind : Due.KIND);
            }
        }
        due.areErrors("as", Due.BEYOND, x.as(7, 0), x.as(-1, 0), x.as(0, 7), x.as(0, -1), x.as(7, 9));
    }

    private static void open() {
        EmptyLand x = threeVillages();
        x.thing(0, 0, 0, 0);
        x.thing(0, 0, 0, 0);
        due.is("shut", x.open(1, 0), 1);
        due.is("shut again", x.open(1, 0), 0);
        due.is("open ones", x.count(3), 1);
        due.is("open", x.open(1, 1), 0);
        due.is("open again", x.open(1, 1), 1);
        due.is("open ones", x.count(3), 2);
        due.areErrors("open", Due.BEYOND, x.open(2, 0), x.open(-1, 0), x.open(0, 2), x.open(0, -1));
        due.is("unchanged", x.count(3), 2);
    }

    private static void promise() {
        EmptyLand x = threeVillages();
        x.thing(0, 0, 9999, 0);
        due.is("promise", x.promise(0, 1), -1);
        due.areErrors("promise", Due.BEYOND, x.promise(1, 0), x.promise(-1, 0), x.promise(0, 200), x.promise(0, -2));
        due.is("year 0 goes by", x.years(1), 1);
        due.is("open", x.ofThing(0, 5), 1);
        due.is("year 1 goes by", x.years(1), 2);
        due.is("open up to its year", x.ofThing(0, 5), 1);
        due.is("year 2 goes by", x.years(1), 3);
        due.is("shut behind it", x.ofThing(0, 5), 0);
        due.is("promise", x.promise(0, 199), 1);
        due.is("promise", x.promise(0, -1), 199);
        due.is("promise", x.promise(0, 0), -1);
    }

    private static void comfort() {
        EmptyLand x = threeVillages();
        due.is("no things", x.comfort(0), 0);
        x.thing(10, 0, 0, 2);
        x.thing(32, 0, 0, 2);
        x.thing(1, 0, 0, 0);
        due.is("comfort 0", x.comfort(0), 5);
        due.is("comfort 1", x.comfort(1), 11);
        due.is("comfort 2", x.comfort(2), 5);
        x.open(1, 0);
        due.is("of open ones", x.comfort(1), 6);
        due.is("of open ones", x.comfort(2), 0);
        due.areErrors("comfort", Due.BEYOND, x.comfort(3), x.comfort(-1), x.comfort(Due.MAX));
    }

    private static void haven() {
        EmptyLand x = new EmptyLand();
        due.is("no villages", x.haven(), Due.NONE);
        x = threeVillages();
        due.is("of like ones the least", x.haven(), 0);
        x.thing(2, 0, 0, 0);
        due.is("most comfort", x.haven(), 2);
        x.thing(1, 0, 0, 0);
        due.is("of two like ones the least", x.haven(), 1);
        x.open(1, 0);
        due.is("of open ones", x.haven(), 2);
    }
}
