/** Lands that the tests start from, and what they are asked again and again. */
final class Lands {
    static final int SHUT = 0;
    static final int GO = 1;
    static final int COME = 2;

    private Lands() {
    }

    /** VILLAGES by fours: place, YOUNG, GROWN, OLD. */
    static EmptyLand of(int... fours) {
        EmptyLand x = new EmptyLand();
        for (int i = 0; i + 3 < fours.length; i += 4) {
            x.village(fours[i], fours[i + 1], fours[i + 2], fours[i + 3]);
        }
        return x;
    }

    /** As of(), but nobody is born, ages, dies, goes or comes, but by what a test adds. */
    static EmptyLand still(int... fours) {
        EmptyLand x = of(fours);
        for (int rate = 0; rate < 4; rate++) {
            x.rate(rate, 0);
        }
        Due.text(x, GO, "0");
        return x;
    }

    /** A land of so many VILLAGES and THINGS, all alike. */
    static EmptyLand alike(int villages, int things) {
        EmptyLand x = new EmptyLand();
        for (int i = 0; i < villages; i++) {
            x.village(0, 1, 1, 1);
        }
        for (int i = 0; i < things; i++) {
            x.thing(0, 0, 0, 0);
        }
        return x;
    }

    /** YEARS go by up to one; a land that refuses them doesn't hold the test up. */
    static EmptyLand upTo(EmptyLand x, int year) {
        for (int i = 0; i < 10 && x.count(0) < year; i++) {
            x.years(Math.min(50, year - x.count(0)));
        }
        return x;
    }

    static EmptyLand put(EmptyLand x, int sheet, int... numbers) {
        for (int i = 0; i < numbers.length; i++) {
            x.put(sheet, i, numbers[i]);
        }
        return x;
    }

    /** PEOPLE of all SORTS of a VILLAGE. */
    static int[] sorts(EmptyLand x, int village) {
        return new int[] {x.people(village, 0), x.people(village, 1), x.people(village, 2)};
    }
}
