/** Compares answers with those that are due, and ends a test with exit code 1 if one differs. */
final class Due {
    static final int BEYOND = -1000000001;
    static final int NONE = -1000000002;
    static final int STATE = -1000000003;
    static final int FULL = -1000000004;
    static final int KIND = -1000000005;
    static final int MIN = Integer.MIN_VALUE;
    static final int MAX = Integer.MAX_VALUE;

    private int asked = 0;
    private int wrong = 0;

    void is(String call, long got, long want) {
        asked++;
        if (got != want) {
            wrong++;
            System.out.println(call + " answered " + got + ", due is " + want);
        }
    }

    /** Each of the answers is the ERROR, and told() counts them all. */
    void areErrors(String call, int error, int... got) {
        for (int i = 0; i < got.length; i++) {
            is(call + " (wrong input " + i + ")", got[i], error);
        }
    }

    /** Feeds a whole text to THE TAPE. */
    static void feed(EmptyLand land, String text) {
        for (int i = 0; i < text.length(); i++) {
            land.feed(text.charAt(i), 1);
        }
    }

    static int text(EmptyLand land, int use, String text) {
        feed(land, text);
        return land.text(use);
    }

    void end() {
        System.out.println(asked + " answers asked, " + wrong + " wrong");
        if (wrong != 0) {
            System.exit(1);
        }
    }
}
