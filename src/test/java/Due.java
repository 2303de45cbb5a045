/** Compares answers with those that are due, and ends a test with exit code 1 if one differs. */
final class Due {
    static final int LOW = -1000000000;
    static final int BEYOND = -1000000001;
    static final int NONE = -1000000002;
    static final int STATE = -1000000003;
    static final int FULL = -1000000004;
    static final int KIND = -1000000005;
    static final int MIN = Integer.MIN_VALUE;
    static final int MAX = Integer.MAX_VALUE;

    private int asked = 0;
    private int wrong = 0;
    private String about = "";

    /** The answers behind this are about these words of the document: of "Terms" (0), or of a promise. */
    void says(int promise, String words) {
        about = (promise == Doc.TERMS ? "Terms" : "Promise " + promise) + " \"" + words + "\": ";
        if (!Doc.section(promise).contains(Doc.plain(words))) {
            wrong++;
            System.out.println(about + "the document doesn't say so");
        }
    }

    void is(String call, long got, long want) {
        asked++;
        if (got != want) {
            wrong++;
            System.out.println(about + call + " answered " + got + ", due is " + want);
        }
    }

    /** Each of the answers is the ERROR. */
    void areErrors(String call, int error, int... got) {
        for (int i = 0; i < got.length; i++) {
            is(call + " (wrong input " + i + ")", got[i], error);
        }
    }

    /** The answers are these, in this order. */
    void are(String call, int[] got, int... want) {
        is(call + ": how many", got.length, want.length);
        for (int i = 0; i < Math.min(got.length, want.length); i++) {
            is(call + " [" + i + "]", got[i], want[i]);
        }
    }

    /** Feeds a whole text to THE TAPE, eight bytes by a call: an object has 512 calls alone. */
    static void feed(EmptyLand land, String text) {
        for (int from = 0; from < text.length(); from += 8) {
            int n = Math.min(8, text.length() - from);
            long word = 0;
            for (int i = n - 1; i >= 0; i--) {
                word = word << 8 | text.charAt(from + i) & 255;
            }
            land.feed(word, n);
        }
    }

    static int text(EmptyLand land, int use, String text) {
        feed(land, text);
        return land.text(use);
    }

    void end() {
        System.out.println(asked + " answers asked, " + wrong + " wrong");
        if (wrong != 0) {
            System.exit(1);
        }
    }
}
