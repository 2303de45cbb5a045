/** Promises 35 to 46: draws, voices, sheets, images, what is told. */
final class VoicesTest {
    private static final Due due = new Due();

    public static void main(String[] args) {
        seed();
        voice();
        voiceGoesRound();
        trace();
        sheet();
        put();
        move();
        image();
        imageLeavesOut();
        restore();
        tell();
        check();
        count();
        told();
        due.end();
    }

    private static void seed() {
        EmptyLand x = new EmptyLand();
        due.is("seed", x.seed(Due.MIN), 1);
        due.is("seed", x.seed(-1000000001), Due.MIN);
        due.is("any number is no ERROR", x.seed(0), -1000000001);
        due.is("any number is no ERROR", x.told(1), 0);
        x.made(1);
        EmptyLand y = new EmptyLand();
        y.seed(0);
        y.made(1);
        due.is("the same draws", y.people(0, 3), x.people(0, 3));
        due.is("the same z", y.count(8), x.count(8));
    }

    /** A land with things 0 to 6, each of the KIND of its number, with LEAST 100. */
    private static EmptyLand ofAllKinds() {
        EmptyLand x = new EmptyLand();
        x.village(0, 1, 1, 1);
        for (int kind = 0; kind <= 6; kind++) {
            x.thing(10 * kind, 0, 100, 0);
        }
        return x;
    }

    private static void voice(EmptyLand x, int thing, int act, int want, int... bodies) {
        String call = "voice(" + thing + ", " + act + ", 9)";
        due.is(call, x.voice(thing, act, 9), want);
        due.is(call + " bodies", x.count(7), bodies.length);
        for (int i = 0; i < bodies.length; i++) {
            due.is(call + " trace " + i, x.trace(i), bodies[i]);
        }
        due.is(call + " trace ends", x.trace(bodies.length), Due.NONE);
    }

    private static void voice() {
        EmptyLand x = ofAllKinds();
        voice(x, 0, 0, 9, 10);
        voice(x, 0, 1, 18, 11, 10);
        voice(x, 0, 2, -91, 12);
        voice(x, 0, 3, 18 ^ -91, 13, 11, 10, 12);
        voice(x, 1, 0, 10, 10);
        voice(x, 1, 1, 20 - -99, 20, 11, 10, 12);
        voice(x, 1, 3, 119 ^ -91, 13, 20, 11, 10, 12, 12);
        voice(x, 2, 0, 33, 30, 10);
        voice(x, 2, 1, 66, 11, 30, 10);
        voice(x, 2, 3, 66 ^ -91, 13, 11, 30, 10, 12);
        voice(x, 3, 0, (10 + 3) * 3, 41, 30, 10);
        voice(x, 3, 2, 91, 40, 12);
        voice(x, 3, 3, 78 ^ 91, 13, 11, 41, 30, 10, 40, 12);
        voice(x, 4, 1, 26, 11, 10);
        voice(x, 4, 3, (26 ^ -91) - 6, 50, 13, 11, 10, 12, 10);
        voice(x, 5, 0, 14 ^ 5, 60, 10);
        voice(x, 5, 1, (14 ^ 5) * 2 + 99 + 5, 61, 20, 11, 60, 10, 12);
        voice(x, 5, 3, ((14 ^ 5) * 2 + 99 + 5) ^ -91, 13, 61, 20, 11, 60, 10, 12, 12);
        voice(x, 6, 0, 15, 10);
        voice(x, 6, 3, 30 - ((30 ^ -91) - 8), 70, 11, 10, 50, 13, 11, 10, 12, 10);
        due.areErrors("voice", Due.BEYOND, x.voice(7, 0, 0), x.voice(-1, 0, 0), x.voice(0, 4, 0), x.voice(0, -1, 0));
        due.is("an ERROR leaves the trace", x.count(7), 9);
        due.is("an ERROR leaves the trace", x.trace(3), 50);
    }

    private static void voiceGoesRound() {
        EmptyLand x = ofAllKinds();
        due.is("holds", x.voice(1, 0, Due.MAX), Due.MIN);
        due.is("falls", x.voice(0, 2, Due.MIN), Due.MAX - 99);
        due.is("rests", x.voice(0, 1, Due.MIN), 0);
        due.is("any number", x.voice(0, 0, -1000000002), -1000000002);
        due.is("is no ERROR", x.told(2), 0);
    }

    private static void trace() {
        EmptyLand x = ofAllKinds();
        due.areErrors("trace", Due.NONE, x.trace(0), x.trace(-1), x.trace(Due.MAX), x.trace(Due.MIN));
        x.voice(0, 3, 1);
        x.voice(0, 0, 1);
        due.is("of the latest", x.count(7), 1);
        due.is("of the latest", x.trace(0), 10);
        due.areErrors("trace", Due.NONE, x.trace(1), x.trace(-1));
    }

    private static void sheet() {
        EmptyLand x = new EmptyLand();
        for (int bits = -1; bits <= 64; bits++) {
            boolean is = bits == 0 || bits == 8 || bits == 16 || bits == 32;
            due.is("sheet of " + bits, x.sheet(0, bits, 4), is ? 1 : Due.BEYOND);
        }
        due.areErrors("sheet", Due.BEYOND, x.sheet(-1, 8, 0), x.sheet(4, 8, 0), x.sheet(4, 0, 0), x.sheet(0, 8, 41),
            x.sheet(0, 7, -1), x.sheet(4, 8, -1), x.sheet(0, 8, Due.MAX));
        due.areErrors("sheet", Due.STATE, x.sheet(0, 8, -1), x.sheet(3, 32, Due.MIN));
        due.is("40", x.sheet(3, 8, 40), 1);
        due.is("the last of 40", x.put(3, 39, 0), 1);
        due.is("0", x.sheet(3, 8, 0), 1);
        due.is("none of 0", x.put(3, 0, 0), Due.BEYOND);
        due.is("missing, whatever n", x.sheet(3, 0, -1), 1);
        due.is("missing", x.put(3, 0, 0), Due.NONE);
        x.sheet(1, 16, 4);
        x.put(1, 0, 5);
        x.put(1, 3, 77);
        due.is("an ERROR leaves it", x.sheet(1, 16, -1), Due.STATE);
        x.villages(1);
        due.is("an ERROR leaves it", x.people(0, 2), 77);
        x.sheet(1, 16, 4);
        x.villages(1);
        due.is("all 0 again", x.people(1, 3) + x.people(1, 4), 0);
    }

    private static void put() {
        EmptyLand x = new EmptyLand();
        due.areErrors("put", Due.BEYOND, x.put(-1, 0, 0), x.put(4, 0, 0));
        due.areErrors("put", Due.NONE, x.put(0, 0, 0), x.put(3, -1, 0));
        x.sheet(0, 8, 4);
        due.areErrors("put", Due.BEYOND, x.put(0, 4, 0), x.put(0, -1, 0), x.put(0, Due.MAX, 0));
        due.is("put", x.put(0, 0, 256 + 30), 1);
        x.put(0, 1, 0x7F);
        x.put(0, 2, Due.MIN + 5);
        x.villages(0);
        due.is("the lowest 8 bits", x.people(0, 4), 30);
        due.is("the lowest 8 bits", x.people(0, 0), 127);
        due.is("the lowest 8 bits", x.people(0, 1), 5);
        x.put(0, 1, 0xFF);
        due.is("with a sign", x.villages(0), 0);
        x.sheet(1, 16, 4);
        x.put(1, 1, 65536 + 32767);
        x.villages(1);
        due.is("the lowest 16 bits", x.people(1, 0), 32767);
        x.put(1, 1, 32768);
        due.is("with a sign", x.villages(1), 0);
        x.sheet(2, 32, 4);
        x.put(2, 1, 99999);
        x.villages(2);
        due.is("32 bits", x.people(2, 0), 99999);
    }

    private static void move() {
        EmptyLand x = new EmptyLand();
        x.sheet(0, 16, 8);
        x.sheet(1, 16, 4);
        x.sheet(2, 32, 4);
        due.areErrors("move", Due.BEYOND, x.move(-1, 0, 0, 0, 0), x.move(0, 0, 4, 0, 0), x.move(4, 0, 3, 0, 0),
            x.move(3, 0, -1, 0, 0));
        due.areErrors("move", Due.NONE, x.move(3, 0, 0, 0, 0), x.move(0, 0, 3, -1, 0), x.move(3, 0, 3, 0, 0));
        due.areErrors("move", Due.KIND, x.move(0, 0, 2, 0, 0), x.move(2, 0, 0, -1, 99));
        due.areErrors("move", Due.BEYOND, x.move(0, -1, 1, 0, 1), x.move(0, 0, 1, -1, 1), x.move(0, 0, 1, 0, -1),
            x.move(0, 0, 1, 0, 5), x.move(0, 5, 1, 0, 4), x.move(0, 0, 1, 1, 4), x.move(0, 9, 1, 0, 0),
            x.move(0, 0, 1, 5, 0), x.move(0, Due.MAX, 1, 0, 1), x.move(0, 1, 1, Due.MAX, Due.MAX),
            x.move(0, 0, 1, 0, Due.MIN));
        due.is("none, from behind the last", x.move(0, 8, 1, 4, 0), 0);
        for (int i = 0; i < 8; i++) {
            x.put(0, i, i + 1);
        }
        due.is("move", x.move(0, 2, 1, 0, 4), 4);
        x.villages(1);
        due.is("place", x.people(0, 4), 3);
        due.is("OLD", x.people(0, 2), 6);
        due.is("to itself, on", x.move(0, 0, 0, 1, 7), 7);
        x.villages(0);
        due.is("as they all were", x.people(1, 4) * 1000 + x.people(1, 0) * 100 + x.people(1, 1) * 10 + x.people(1, 2), 1123);
        due.is("as they all were", x.people(2, 4) * 1000 + x.people(2, 0) * 100 + x.people(2, 1) * 10 + x.people(2, 2), 4567);
        due.is("to itself, back", x.move(0, 1, 0, 0, 7), 7);
        x.villages(0);
        due.is("as they all were", x.people(3, 4) * 1000 + x.people(3, 0) * 100 + x.people(3, 1) * 10 + x.people(3, 2), 1234);
        due.is("as they all were", x.people(4, 4) * 1000 + x.people(4, 0) * 100 + x.people(4, 1) * 10 + x.people(4, 2), 5677);
    }

    private static void image() {
        EmptyLand x = new EmptyLand();
        x.village(0, 1, 2, 3);
        x.village(9, 4, 5, 6);
        x.thing(10, 7, 8, 9);
        x.promise(0, 5);
        x.mend(0, 1, 1);
        x.pace(3);
        x.rate(0, 7);
        x.rate(5, 70);
        Due.text(x, 1, "1");
        Due.feed(x, "s+");
        x.tell(1);
        x.seed(99);
        due.is("image", x.image(), 1);
        x.village(1, 1, 1, 1);
        x.become(0, 0, 50);
        x.thing(20, 1, 1, 1);
        x.open(0, 0);
        x.promise(0, 6);
        x.mend(0, 1, 0);
        x.pace(1);
        x.rate(0, 0);
        Due.text(x, 1, "s+22");
        Due.text(x, 2, "3");
        Due.text(x, 0, "0");
        x.tell(0);
        x.made(1);
        x.years(10);
        due.is("restore", x.restore(), 0);
        due.is("villages", x.count(1), 2);
        due.is("people", x.people(0, 0), 1);
        due.is("things", x.count(2), 1);
        due.is("open", x.ofThing(0, 5), 1);
        due.is("promise", x.ofThing(0, 6), 5);
        due.is("way by pace 3, mended", x.way(0, 1), 13);
        due.is("serves", x.ofThing(0, 9), 1);
        due.is("BORN", x.rate(0, 7), 7);
        due.is("COIN", x.count(4), 70);
        due.is("GO", x.law(1, 9, 9, 9), 1);
        due.is("COME", x.law(2, 9, 9, 9), 0);
        due.is("SHUT", x.law(0, 1, 2, 9), 1);
        due.is("tape", x.count(5), 2);
        due.is("z", x.count(8), 99);
        due.is("waiting", x.count(6), 1);
        Due.feed(x, "7");
        due.is("the tape's bytes", x.text(1), 1);
        due.is("the tape's bytes", x.law(1, 5, 0, 0), 12);
        x.tell(0);
        due.is("the waiting numbers", x.check(0), 0);
    }

    private static void imageLeavesOut() {
        EmptyLand x = new EmptyLand();
        x.village(0, 1, 2, 3);
        x.thing(0, 0, 0, 0);
        x.image();
        x.sheet(0, 8, 4);
        x.voice(0, 3, 1);
        x.village(-1, 0, 0, 0);
        due.is("image again", x.image(), 2);
        x.sheet(0, 8, 8);
        x.voice(0, 0, 1);
        x.village(-1, 0, 0, 0);
        x.restore();
        due.is("sheets", x.villages(0), 2);
        due.is("the trace", x.count(7), 1);
        due.is("what is told", x.told(1), 2);
        due.is("how often", x.image(), 3);
    }

    private static void restore() {
        EmptyLand x = new EmptyLand();
        due.is("no image", x.restore(), Due.NONE);
        x.years(3);
        x.image();
        x.years(4);
        due.is("NOW", x.restore(), 3);
        x.years(5);
        due.is("the image stays", x.restore(), 3);
        x.years(1);
        x.image();
        x.years(1);
        due.is("the later one, in place of the first", x.restore(), 4);
        x.village(0, 9, 9, 9);
        x.image();
        x.become(0, 0, 1);
        due.is("what is done later isn't in it", x.restore(), 4);
        due.is("YOUNG", x.people(0, 0), 9);
    }

    private static void tell() {
        EmptyLand x = new EmptyLand();
        for (int i = 1; i <= 20; i++) {
            due.is("tell", x.tell(i % 2 == 0 ? Due.MIN : Due.MAX), i);
        }
        due.is("a 21st", x.tell(0), Due.FULL);
        due.is("waiting", x.count(6), 20);
        x.check(0);
        due.is("none waits", x.count(6), 0);
        due.is("tell", x.tell(0), 1);
    }

    private static int check(EmptyLand x, int n, int... numbers) {
        for (int number : numbers) {
            x.tell(number);
        }
        return x.check(n);
    }

    private static void check() {
        EmptyLand x = new EmptyLand();
        due.is("none", check(x, 0), 0);
        due.is("one too many", check(x, 0, 0), 1);
        x.village(0, 1, 1, 3);
        x.village(1, 9, 9, 0);
        x.village(2, 5, 0, 0);
        x.village(3, 100, 0, 0);
        for (int rate = 0; rate < 4; rate++) {
            x.rate(rate, 0);
        }
        Due.text(x, 1, "(n=100)*98");
        due.is("as due, like ones by number", check(x, 0, 3, 1, 0, 2), 0);
        due.is("like ones not by number", check(x, 0, 3, 1, 2, 0), 3);
        due.is("the first isn't so", check(x, 0, 1, 3, 0, 2), 1);
        due.is("the last isn't so", check(x, 0, 3, 1, 0, 7), 4);
        due.is("one is missing", check(x, 0, 3, 1, 0), 4);
        due.is("all are missing", check(x, 0), 1);
        due.is("one too many", check(x, 0, 3, 1, 0, 2, 2), 5);
        due.is("a number twice", check(x, 0, 3, 3, 0, 2), 2);
        due.is("no village's number", check(x, 0, Due.MIN, 1, 0, 2), 1);
        // 98 of 100 go from village 3, 49 of them to HAVEN.
        due.is("ahead by one", check(x, 1, 0, 1, 2, 3), 0);
        due.is("none waits", x.count(6), 0);
        x.tell(3);
        due.areErrors("check", Due.BEYOND, x.check(41));
        due.is("none waits then, too", x.count(6), 0);
        due.areErrors("check", Due.BEYOND, x.check(-1), x.check(Due.MIN));
    }

    private static void count() {
        EmptyLand x = new EmptyLand();
        x.village(0, 0, 0, 0);
        x.village(0, 0, 0, 0);
        x.thing(0, 3, 0, 0);
        x.thing(0, 4, 0, 0);
        x.thing(0, 5, 0, 0);
        x.open(1, 0);
        x.years(7);
        Due.feed(x, "1234");
        x.tell(5);
        x.voice(0, 1, 1);
        x.seed(-1000000001);
        int[] want = {7, 2, 3, 2, 7 * 92, 4, 1, 2, -1000000001};
        for (int what = 0; what < want.length; what++) {
            due.is("count(" + what + ")", x.count(what), want[what]);
        }
        due.is("z is no ERROR", x.told(1), 0);
        due.areErrors("count", Due.BEYOND, x.count(-1), x.count(9), x.count(Due.MIN));
        due.is("told", x.told(1), 3);
    }

    private static void told() {
        EmptyLand x = new EmptyLand();
        x.people(0, 0);
        x.haven();
        x.restore();
        x.sheet(0, 8, -1);
        x.sheet(0, 8, -1);
        x.sheet(0, 8, -1);
        x.made(8);
        x.made(1);
        x.thing(10, 0, 0, 0);
        x.as(0, 2);
        x.thing(20, 0, 0, 0);
        x.site(0, 1);
        int[] want = {0, 1, 2, 3, 1, 2};
        for (int k = 1; k <= 5; k++) {
            due.is("told(" + k + ")", x.told(k), want[k]);
        }
        due.areErrors("told", Due.BEYOND, x.told(0), x.told(6), x.told(-1), x.told(Due.MIN));
        due.is("counted, too", x.told(1), 5);
    }
}
