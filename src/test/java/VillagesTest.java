/** Promises 1 to 9: a new object, villages, ways. */
final class VillagesTest {
    private static final Due due = new Due();

    public static void main(String[] args) {
        newObject();
        village();
        people();
        become();
        villages();
        villagesUpToRoom();
        made();
        pace();
        way();
        mend();
        due.end();
    }

    private static void newObject() {
        EmptyLand x = new EmptyLand();
        int[] first = {0, 0, 0, 0, 0, 0, 0, 0, 1};
        for (int what = 0; what < first.length; what++) {
            due.is("new: count(" + what + ")", x.count(what), first[what]);
        }
        for (int k = 1; k <= 5; k++) {
            due.is("new: told(" + k + ")", x.told(k), 0);
        }
        int[] rates = {3, 6, 3, 5, 100, 0};
        for (int rate = 0; rate < rates.length; rate++) {
            due.is("new: rate(" + rate + ", 0)", x.rate(rate, 0), rates[rate]);
        }
        due.is("new: pace", x.pace(2), 2);
        due.is("new: seed", x.seed(1), 1);
        due.is("new: law SHUT", x.law(0, 4, 5, 0), 1);
        due.is("new: law GO", x.law(1, 0, 0, 0), 12);
        due.is("new: law COME", x.law(2, 9, 9, 9), 0);
        due.is("new: haven", x.haven(), Due.NONE);
        due.is("new: trace", x.trace(0), Due.NONE);
        due.is("new: restore", x.restore(), Due.NONE);
        for (int sheet = 0; sheet < 4; sheet++) {
            due.is("new: villages of a sheet", x.villages(sheet), Due.NONE);
        }
    }

    private static void village() {
        EmptyLand x = new EmptyLand();
        due.is("village at the edge", x.village(3030, 99999, 0, 99999), 0);
        due.is("village", x.village(0, 0, 0, 0), 1);
        due.areErrors("village", Due.BEYOND,
            x.village(-1, 0, 0, 0), x.village(31, 0, 0, 0), x.village(3100, 0, 0, 0), x.village(3031, 0, 0, 0),
            x.village(99, 0, 0, 0), x.village(Due.MAX, 0, 0, 0), x.village(Due.MIN, 0, 0, 0),
            x.village(0, -1, 0, 0), x.village(0, 0, -1, 0), x.village(0, 0, 0, -1),
            x.village(0, 100000, 0, 0), x.village(0, 0, 100000, 0), x.village(0, 0, 0, 100000));
        due.is("villages", x.count(1), 2);
        for (int i = 2; i < 8; i++) {
            due.is("village " + i, x.village(i, i, i, i), i);
        }
        due.is("a ninth", x.village(0, 0, 0, 0), Due.FULL);
        due.is("BEYOND ahead of FULL", x.village(-1, 0, 0, 0), Due.BEYOND);
        due.is("told FULL", x.told(4), 1);
        due.is("villages", x.count(1), 8);
    }

    private static void people() {
        EmptyLand x = new EmptyLand();
        due.is("no village", x.people(0, 0), Due.BEYOND);
        x.village(1203, 1, 20, 300);
        int[] want = {1, 20, 300, 321, 1203};
        for (int sort = 0; sort < want.length; sort++) {
            due.is("people(0, " + sort + ")", x.people(0, sort), want[sort]);
        }
        due.areErrors("people", Due.BEYOND,
            x.people(1, 0), x.people(-1, 0), x.people(0, 5), x.people(0, -1), x.people(Due.MIN, Due.MAX));
    }

    private static void become() {
        EmptyLand x = new EmptyLand();
        x.village(0, 1, 2, 3);
        x.village(1, 4, 5, 6);
        due.is("become", x.become(1, 1, 99999), 5);
        due.is("become", x.become(1, 1, 0), 99999);
        due.is("become", x.become(0, 2, 7), 3);
        due.is("all", x.people(0, 3), 10);
        due.is("all", x.people(1, 3), 10);
        due.areErrors("become", Due.BEYOND,
            x.become(2, 0, 0), x.become(-1, 0, 0), x.become(0, 3, 0), x.become(0, -1, 0),
            x.become(0, 0, -1), x.become(0, 0, 100000));
        due.is("unchanged", x.people(0, 3), 10);
    }

    private static void putAll(EmptyLand x, int sheet, int... numbers) {
        for (int i = 0; i < numbers.length; i++) {
            x.put(sheet, i, numbers[i]);
        }
    }

    private static void villages() {
        EmptyLand x = new EmptyLand();
        due.areErrors("villages", Due.BEYOND, x.villages(-1), x.villages(4), x.villages(Due.MIN));
        due.is("missing", x.villages(2), Due.NONE);
        x.sheet(2, 32, 14);
        putAll(x, 2, 101, 1, 2, 3, 202, 4, 5, 99999, 31, 0, 0, 0, 5, 5);
        due.is("two as told", x.villages(2), 2);
        due.is("the second", x.people(1, 3), 100008);
        due.is("the first's place", x.people(0, 4), 101);
        x.put(2, 8, 30);
        due.is("the fourth isn't whole", x.villages(2), 3);
        due.is("villages", x.count(1), 5);
        x.sheet(0, 8, 8);
        putAll(x, 0, 30, 127, 127, 127, 30, 128, 0, 0);
        due.is("128 of 8 bits is below 0", x.villages(0), 1);
        due.is("of 8 bits", x.people(5, 3), 381);
        for (int wrong = 0; wrong < 4; wrong++) {
            x.sheet(3, 16, 4);
            x.put(3, wrong, -1);
            due.is("number " + wrong + " isn't as told", x.villages(3), 0);
        }
        x.sheet(1, 16, 0);
        due.is("of no numbers", x.villages(1), 0);
        x.sheet(1, 16, 3);
        due.is("of three numbers", x.villages(1), 0);
    }

    private static void villagesUpToRoom() {
        EmptyLand x = new EmptyLand();
        x.sheet(3, 16, 40);
        due.is("room for eight of ten", x.villages(3), 8);
        due.is("no room", x.villages(3), 0);
        due.is("villages", x.count(1), 8);
        due.is("no ERROR", x.told(4), 0);
    }

    private static void made() {
        EmptyLand x = new EmptyLand();
        due.areErrors("made", Due.BEYOND, x.made(0), x.made(9), x.made(-1), x.made(Due.MIN), x.made(Due.MAX));
        due.is("made", x.made(1), 1);
        int z = 1;
        int[] by = {31, 31, 100, 300, 200};
        int[] drawn = new int[5];
        for (int i = 0; i < 5; i++) {
            z = z * 1103515245 + 12345;
            drawn[i] = (z >>> 8) % by[i];
        }
        due.is("z", x.count(8), z);
        due.is("place", x.people(0, 4), 100 * drawn[0] + drawn[1]);
        due.is("YOUNG", x.people(0, 0), drawn[2]);
        due.is("GROWN", x.people(0, 1), drawn[3]);
        due.is("OLD", x.people(0, 2), drawn[4]);
        due.is("no room for eight", x.made(8), Due.FULL);
        due.is("z stays", x.count(8), z);
        due.is("none came", x.count(1), 1);
        due.is("room for seven", x.made(7), 8);
        due.is("no room", x.made(1), Due.FULL);
        due.is("BEYOND ahead of FULL", x.made(0), Due.BEYOND);
    }

    private static void pace() {
        EmptyLand x = new EmptyLand();
        x.village(0, 0, 0, 0);
        x.village(3030, 0, 0, 0);
        x.thing(10, 0, 0, 60);
        due.is("pace", x.pace(9), 2);
        due.is("way by 9", x.way(0, 1), 540);
        due.is("pace", x.pace(1), 9);
        due.is("way by 1", x.way(0, 1), 60);
        due.is("the pace tells whom a thing serves", x.ofThing(0, 9), 3);
        due.areErrors("pace", Due.BEYOND, x.pace(0), x.pace(10), x.pace(-1), x.pace(Due.MIN));
        due.is("pace stays", x.pace(2), 1);
    }

    private static void way() {
        EmptyLand x = new EmptyLand();
        x.village(1020, 0, 0, 0);
        x.village(1300, 0, 0, 0);
        x.village(1020, 0, 0, 0);
        due.is("way", x.way(0, 1), 46);
        due.is("way back", x.way(1, 0), 46);
        due.is("way to itself", x.way(1, 1), 0);
        due.is("way at one place", x.way(0, 2), 0);
        due.areErrors("way", Due.BEYOND, x.way(0, 3), x.way(3, 0), x.way(-1, 0), x.way(0, -1));
    }

    private static void mend() {
        EmptyLand x = new EmptyLand();
        x.village(0, 0, 0, 0);
        x.village(3, 0, 0, 0);
        x.village(6, 0, 0, 0);
        x.pace(1);
        x.thing(10, 0, 0, 1);
        due.is("serves itself alone", x.ofThing(0, 9), 1);
        due.is("mend", x.mend(1, 0, 1), 0);
        due.is("the same way", x.mend(0, 1, 1), 1);
        due.is("half, cut", x.way(0, 1), 1);
        due.is("half, cut, back", x.way(1, 0), 1);
        due.is("another way", x.way(1, 2), 3);
        due.is("serves who is nearer now", x.ofThing(0, 9), 3);
        due.is("no more", x.mend(0, 1, 0), 1);
        due.is("no more", x.mend(1, 0, 0), 0);
        due.is("whole", x.way(1, 0), 3);
        due.is("whole, back", x.way(0, 1), 3);
        x.mend(0, 1, 1);
        x.mend(1, 2, 1);
        x.mend(1, 0, 0);
        due.is("not mended any more", x.way(0, 1) + x.way(1, 0), 6);
        due.is("still mended", x.way(1, 2) + x.way(2, 1), 2);
        due.is("never mended", x.way(0, 2) + x.way(2, 0), 12);
        due.areErrors("mend", Due.BEYOND,
            x.mend(1, 1, 1), x.mend(0, 3, 1), x.mend(3, 0, 1), x.mend(-1, 0, 1), x.mend(0, 1, 2), x.mend(0, 1, -1));
        due.is("unchanged", x.mend(0, 1, 0), 0);
    }
}
