/** Promises 17 to 21: the tape, texts, laws, rates, years. */
final class TextsTest {
    private static final Due due = new Due();
    private static final int SHUT = 0;
    private static final int GO = 1;
    private static final int COME = 2;

    public static void main(String[] args) {
        feed();
        textTakesTheTape();
        faults();
        depths();
        values();
        law();
        rate();
        years();
        yearShuts();
        yearGoes();
        yearComes();
        yearAges();
        yearHolds();
        due.end();
    }

    private static void feed() {
        EmptyLand x = new EmptyLand();
        due.areErrors("feed", Due.BEYOND, x.feed(0, 0), x.feed(0, 9), x.feed(0, -1), x.feed(0, Due.MIN));
        due.is("none came", x.count(5), 0);
        // The bytes '1', '+', 'u' from the lowest on; what is above isn't fed.
        due.is("the lowest first", x.feed(0x7F00000000752B31L, 3), 3);
        due.is("text", x.text(SHUT), 1);
        due.is("law", x.law(SHUT, -1, 0, 0), 0);
        for (int i = 1; i <= 6; i++) {
            due.is("eight bytes", x.feed(-1L, 8), 8 * i);
        }
        due.is("49 to 51", x.feed(0, 3), Due.FULL);
        due.is("BEYOND ahead of FULL", x.feed(0, 9), Due.BEYOND);
        due.is("none of them came", x.count(5), 48);
        due.is("50", x.feed(0, 2), 50);
        due.is("51", x.feed(0, 1), Due.FULL);
        due.is("a byte of 255", x.text(SHUT), -10);
    }

    private static void textTakesTheTape() {
        EmptyLand x = new EmptyLand();
        Due.feed(x, "7");
        due.areErrors("text", Due.BEYOND, x.text(3), x.text(-1), x.text(Due.MIN));
        due.is("the tape stays", x.count(5), 1);
        due.is("text", x.text(GO), 1);
        due.is("the tape is empty", x.count(5), 0);
        due.is("law", x.law(GO, 0, 0, 0), 7);
        due.is("no text", x.text(GO), -10);
        due.is("a fault", Due.text(x, GO, "1+"), -12);
        due.is("the tape is empty, too", x.count(5), 0);
        due.is("the one ahead stays", x.law(GO, 0, 0, 0), 7);
        due.is("a fault is no ERROR", x.told(1) + x.told(2) + x.told(3) + x.told(4) + x.told(5), 3);
        due.is("another in its place", Due.text(x, GO, "8"), 1);
        due.is("law", x.law(GO, 0, 0, 0), 8);
        due.is("each USE has its own", x.law(COME, 0, 0, 0), 0);
    }

    private static void fault(int use, String text, int fault) {
        due.is("text of " + use + ": " + text, Due.text(new EmptyLand(), use, text), fault < 0 ? 1 : -10 - fault);
    }

    private static void faults() {
        fault(SHUT, "", 0);
        fault(SHUT, "u<l", -1);
        fault(SHUT, "ulcy", 1);
        fault(SHUT, "u+l+c+y", -1);
        fault(SHUT, "s", 0);
        fault(SHUT, "1+w", 2);
        fault(GO, "s+w+n", -1);
        fault(GO, "s+u", 2);
        fault(COME, "w+n", -1);
        fault(COME, "w+s", 2);
        fault(SHUT, "9999", -1);
        fault(SHUT, "00001", 4);
        fault(SHUT, "12345+", 4);
        fault(SHUT, "1<2<3", 3);
        fault(SHUT, "1<2=3", 3);
        fault(SHUT, "(1<2)<3", -1);
        fault(SHUT, "1<2&2>1|3=3", -1);
        fault(SHUT, "1<", 2);
        fault(SHUT, "1&", 2);
        fault(SHUT, "1|", 2);
        fault(SHUT, "1*", 2);
        fault(SHUT, "1||2", 2);
        fault(SHUT, "-1", 0);
        fault(SHUT, "1+-1", 2);
        fault(SHUT, "1 +1", 1);
        fault(SHUT, "(1", 2);
        fault(SHUT, "(1))", 3);
        fault(SHUT, ")", 0);
        fault(SHUT, "()", 1);
        fault(SHUT, "(1+2)*3", -1);
        fault(SHUT, "(1+2)3", 5);
        fault(SHUT, "u(1)", 1);
        fault(SHUT, "!", 1);
        fault(SHUT, "1!", 1);
        fault(SHUT, "!u*!l", -1);
        fault(SHUT, "1)", 1);
        fault(SHUT, "(1<2<3", 4);
        fault(SHUT, "1<=2", 2);
        fault(SHUT, "U", 0);
        fault(SHUT, "u%l/c*y-1+0", -1);
        // Of bytes above 127 none stands in a TEXT.
        fault(SHUT, "1" + (char) (128 + '+') + "1", 1);
        fault(SHUT, "1+1+1+1+1+1+1+1+1+1+1+1+1+1+1+1+1+1+1+1+1+1+1+1+11", -1);
        fault(SHUT, "1+1+1+1+1+1+1+1+1+1+1+1+1+1+1+1+1+1+1+1+1+1+1+1+1+", 50);
    }

    private static void depths() {
        fault(SHUT, "(((((1)))))", -1);
        fault(SHUT, "((((((1))))))", 5);
        fault(SHUT, "!!!!!1", -1);
        fault(SHUT, "!!!!!!1", 5);
        fault(SHUT, "!(!(!1))", -1);
        fault(SHUT, "!(!(!(1)))", 5);
        fault(SHUT, "!!!!!(1)", 5);
        fault(SHUT, "!!!!(1)", -1);
        fault(SHUT, "!!!!!1+!!!!!1", -1);
        fault(SHUT, "(((((1)))))*(((((1", 18);
        fault(SHUT, "((((!1+!1))))", -1);
        fault(SHUT, "((((!1+!!1))))", 8);
        fault(SHUT, "(((((", 5);
        fault(SHUT, "(((((u))))))", 11);
    }

    /** What a TEXT gives, seen as SHUT of (text = want): the wanted number is named l. */
    private static void value(String text, int u, int want) {
        EmptyLand x = new EmptyLand();
        due.is("text " + text, Due.text(x, SHUT, "(" + text + ")=l"), 1);
        due.is(text + " with u " + u, x.law(SHUT, u, want, 0), 1);
        due.is(text + " isn't another number", x.law(SHUT, u, want + 1, 0), 0);
    }

    private static void values() {
        value("2+3*4", 0, 14);
        value("(2+3)*4", 0, 20);
        value("10-3-2", 0, 5);
        value("100/10/3", 0, 3);
        value("100%30/4", 0, 2);
        value("7/(0-2)", 0, -3);
        value("(0-7)/2", 0, -3);
        value("(0-7)%3", 0, -1);
        value("7%(0-3)", 0, 1);
        value("7/0", 0, 0);
        value("7%0", 0, 0);
        value("u/(0-1)", Due.MIN, Due.MIN);
        value("u%(0-1)", Due.MIN, 0);
        value("u+1", Due.MAX, Due.MIN);
        value("u*u", 65536, 0);
        value("u*3", Due.MAX, Due.MAX - 2);
        value("5|0", 0, 1);
        value("0|0", 0, 0);
        value("5&7", 0, 1);
        value("5&0", 0, 0);
        value("1|1&0", 0, 1);
        value("(1|1)&0", 0, 0);
        value("5", 0, 5);
        value("(5)", 0, 5);
        value("!5", 0, 0);
        value("!0", 0, 1);
        value("!!5", 0, 1);
        value("!0+4", 0, 5);
        value("!0*4", 0, 4);
        value("3<4", 0, 1);
        value("4<4", 0, 0);
        value("4=4", 0, 1);
        value("3=4", 0, 0);
        value("5>4", 0, 1);
        value("4>4", 0, 0);
        value("u<0", Due.MIN, 1);
        value("1+2<4", 0, 1);
        value("3<1+3", 0, 1);
        value("(1<2)+(2<3)+5", 0, 7);
        value("0|7<8", 0, 1);
        value("0012", 0, 12);
        value("u-u", 12345, 0);
    }

    private static void law() {
        EmptyLand x = new EmptyLand();
        due.areErrors("law", Due.BEYOND, x.law(-1, 0, 0, 0), x.law(3, 0, 0, 0), x.law(Due.MAX, 0, 0, 0));
        due.is("SHUT u < l", x.law(SHUT, 4, 5, 0), 1);
        due.is("SHUT u = l", x.law(SHUT, 5, 5, 0), 0);
        due.is("GO of YOUNG", x.law(GO, 0, 5, 0), 7);
        due.is("GO of GROWN", x.law(GO, 1, 5, 0), 3);
        due.is("GO of OLD, held", x.law(GO, 2, 5, 0), 0);
        due.is("GO, held at 100", x.law(GO, 0, -200, 0), 100);
        due.is("COME", x.law(COME, 5, 5, 5), 0);
        Due.text(x, SHUT, "u*100+l*10+c-123+y*1000");
        due.is("SHUT 0, y is 0", x.law(SHUT, 1, 2, 3), 0);
        due.is("SHUT below 0", x.law(SHUT, 1, 2, 0), 1);
        due.is("SHUT above 0", x.law(SHUT, 1, 3, 3), 1);
        Due.text(x, GO, "s*100+w*10+n");
        due.is("GO in order", x.law(GO, 0, 2, 3), 23);
        due.is("GO held at 100", x.law(GO, 1, 0, 1), 100);
        due.is("GO held at 0", x.law(GO, 0, 0, -1), 0);
        Due.text(x, COME, "w*10+n");
        due.is("COME in order", x.law(COME, 1, 2, 999), 12);
        due.is("COME held at 20", x.law(COME, 2, 1, 0), 20);
        due.is("COME held at 0", x.law(COME, 0, -1, 0), 0);
    }

    private static void rate() {
        EmptyLand x = new EmptyLand();
        int[] first = {3, 6, 3, 5, 100, 0};
        int[] least = {0, 0, 0, 0, 0, -9999999};
        int[] most = {20, 50, 50, 50, 9999, 9999999};
        for (int rate = 0; rate < 6; rate++) {
            due.is("most of " + rate, x.rate(rate, most[rate]), first[rate]);
            due.is("least of " + rate, x.rate(rate, least[rate]), most[rate]);
            due.areErrors("rate " + rate, Due.BEYOND,
                x.rate(rate, least[rate] - 1), x.rate(rate, most[rate] + 1), x.rate(rate, Due.MIN));
            due.is("unchanged " + rate, x.rate(rate, first[rate]), least[rate]);
        }
        due.areErrors("rate", Due.BEYOND, x.rate(-1, 0), x.rate(6, 0), x.rate(Due.MIN, 0));
        x.rate(5, 77);
        due.is("COIN", x.count(4), 77);
    }

    private static void years() {
        EmptyLand x = new EmptyLand();
        due.areErrors("years", Due.BEYOND, x.years(0), x.years(51), x.years(-1), x.years(Due.MIN), x.years(Due.MAX));
        due.is("years", x.years(50), 50);
        due.is("years", x.years(50), 100);
        due.is("years", x.years(50), 150);
        due.is("above 199", x.years(50), Due.STATE);
        due.is("up to 199", x.years(49), 199);
        due.is("above 199", x.years(1), Due.STATE);
        due.is("BEYOND ahead of STATE", x.years(51), Due.BEYOND);
        due.is("NOW", x.count(0), 199);
        due.is("COIN by INCOME alone", x.count(4), 19900);
    }

    /** A land in which nobody is born, ages, dies, goes or comes, but by what a test adds. */
    private static EmptyLand still(int... placeAndPeople) {
        EmptyLand x = new EmptyLand();
        for (int rate = 0; rate < 4; rate++) {
            x.rate(rate, 0);
        }
        Due.text(x, GO, "0");
        for (int i = 0; i + 3 < placeAndPeople.length; i += 4) {
            x.village(placeAndPeople[i], placeAndPeople[i + 1], placeAndPeople[i + 2], placeAndPeople[i + 3]);
        }
        return x;
    }

    private static void yearShuts() {
        EmptyLand x = still(0, 10, 20, 30);
        x.thing(10, 40, 10, 0);
        x.thing(10, 50, 11, 0);
        x.thing(20, 70, 61, 0);
        x.promise(2, 0);
        x.years(1);
        due.is("as many as LEAST", x.ofThing(0, 5), 1);
        due.is("one less", x.ofThing(1, 5), 0);
        due.is("one less, promised", x.ofThing(2, 5), 1);
        due.is("COSTS of those that stay open", x.count(4), 100 - 40 - 70);
        x.years(1);
        due.is("behind its promise", x.ofThing(2, 5), 0);
        due.is("COIN", x.count(4), -10 + 100 - 40);
        x.become(0, 0, 99);
        x.years(1);
        due.is("none opens by itself", x.left(0, 2), 1);
        Due.text(x, SHUT, "y=4&c=40&l=10&u=99");
        x.years(1);
        due.is("year 3", x.ofThing(0, 5), 1);
        x.years(1);
        due.is("year 4", x.ofThing(0, 5), 0);
    }

    private static void yearGoes() {
        EmptyLand x = still(0, 100, 200, 300, 3030, 55, 55, 55, 1515, 30, 30, 30);
        x.thing(11, 0, 0, 0);
        // Of village 0: 10, 20, 30 of 100; its 600 people are n.
        Due.text(x, GO, "(s+1)*10*(n=600)+(w=5)*2*(s=2)+(n=90)*10");
        x.years(1);
        int[][] want = {{90, 160, 210}, {55 + 5 + 1, 55 + 20 + 1, 55 - 1 + 45 + 1}, {27, 27, 27}};
        for (int village = 0; village < 3; village++) {
            for (int sort = 0; sort < 3; sort++) {
                due.is("who is there: " + village + ", " + sort, x.people(village, sort), want[village][sort]);
            }
        }
        // Who comes to HAVEN doesn't change how many of HAVEN go, wherever it stands.
        EmptyLand y = still(0, 100, 0, 0, 10, 99, 0, 0);
        y.thing(0, 0, 0, 0);
        Due.text(y, GO, "50");
        y.years(1);
        due.is("HAVEN", y.people(0, 0), 100 - 50 + 24);
        due.is("the other", y.people(1, 0), 99 - 49);
        // Without a text: 12, 8, 4 of 100, less COMFORT.
        EmptyLand z = new EmptyLand();
        z.village(0, 1000, 1000, 1000);
        for (int rate = 0; rate < 4; rate++) {
            z.rate(rate, 0);
        }
        z.thing(10, 0, 0, 0);
        z.years(1);
        due.is("YOUNG", z.people(0, 0), 930);
        due.is("GROWN", z.people(0, 1), 970);
        due.is("OLD", z.people(0, 2), 1000);
        // COMFORT is that behind the shutting.
        z.thing(10, 0, 9999, 0);
        z.years(1);
        due.is("YOUNG", z.people(0, 0), 930 - 65);
    }

    private static void yearComes() {
        EmptyLand x = still(0, 10, 20, 70, 3030, 0, 150, 0);
        x.thing(10, 0, 0, 0);
        Due.text(x, COME, "w*2+(n=150)");
        x.years(1);
        due.is("GROWN", x.people(0, 1), 30);
        due.is("others", x.people(0, 3), 110);
        due.is("1 of 100, cut", x.people(1, 1), 151);
        // All PEOPLE as they are behind who went: 50 went, 25 of them came to HAVEN.
        EmptyLand y = still(0, 0, 100, 0, 3030, 0, 100, 0);
        y.thing(0, 0, 0, 0);
        Due.text(y, GO, "50*!w");
        Due.text(y, COME, "(n=125)*20+(n=50)*10");
        y.years(1);
        due.is("HAVEN", y.people(0, 1), 150);
        due.is("the other", y.people(1, 1), 55);
    }

    private static void yearAges() {
        EmptyLand x = still(0, 99, 199, 299);
        x.rate(0, 10);
        x.rate(1, 20);
        x.rate(2, 30);
        x.rate(3, 40);
        x.years(1);
        due.is("YOUNG", x.people(0, 0), 99 + 19 - 19);
        due.is("GROWN", x.people(0, 1), 199 + 19 - 59);
        due.is("OLD", x.people(0, 2), 299 + 59 - 119);
        EmptyLand even = still(0, 100, 1000, 10000);
        for (int rate = 0; rate < 4; rate++) {
            even.rate(rate, rate + 1);
        }
        even.years(1);
        due.is("YOUNG, nothing cut", even.people(0, 0), 100 + 10 - 2);
        due.is("GROWN, nothing cut", even.people(0, 1), 1000 + 2 - 30);
        due.is("OLD, nothing cut", even.people(0, 2), 10000 + 30 - 400);
        // Who comes in (3) has children in (4).
        EmptyLand y = still(0, 0, 95, 0);
        y.rate(0, 1);
        Due.text(y, COME, "10");
        y.years(1);
        due.is("GROWN", y.people(0, 1), 104);
        due.is("YOUNG", y.people(0, 0), 1);
    }

    private static void yearHolds() {
        EmptyLand x = still(0, 99999, 99999, 99999, 3030, 99999, 99999, 99999);
        x.thing(0, 0, 0, 0);
        Due.text(x, GO, "(w=0)*50");
        Due.text(x, COME, "(w=1)*20");
        x.rate(0, 20);
        x.rate(2, 10);
        x.years(1);
        due.is("YOUNG", x.people(0, 0), 99999);
        due.is("GROWN, held ahead of (4)", x.people(0, 1), 99999 - 9999);
        due.is("OLD", x.people(0, 2), 99999);
        due.is("the other's GROWN", x.people(1, 1), 50000 - 5000);
        EmptyLand y = still(0, 99999, 0, 0);
        y.rate(1, 50);
        y.become(0, 1, 60001);
        y.rate(2, 0);
        y.years(1);
        due.is("GROWN, held behind (4)", y.people(0, 1), 99999);
        due.is("YOUNG", y.people(0, 0), 50000);
    }
}
