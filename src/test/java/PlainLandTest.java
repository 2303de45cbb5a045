import java.lang.reflect.Method;
import java.util.ArrayList;
import java.util.List;
import java.util.Random;

/** Runs of drawn calls and drawn texts, the same on EmptyLand and on PlainLand: each answer is to be the same. */
final class PlainLandTest {
    private static final int RUNS = 150;
    private static final int CALLS = 300;
    private static final int TEXTS = 40000;
    private static final String SIGNS = "((!!))1100ulcyswn<=>+-*/%|&";
    private static final int[] WILD = {-1, 0, 1, 2, 9, 40, 41, 100, 200, 401, 999, 1000, 9999, 10000, 99999, 100000,
        Integer.MIN_VALUE, Integer.MAX_VALUE, Integer.MIN_VALUE + 1};
    private static final String[] NAMES = {"ulcy", "swn", "wn"};
    // Calls that build the land stand here more often than others.
    private static final String[] MORE = {"village", "village", "thing", "thing", "thing", "thing", "years", "mend", "open",
        "promise", "rate", "join", "become", "put", "put", "put", "put"};

    private final Random random;
    private final EmptyLand land = new EmptyLand();
    private final PlainLand plain = new PlainLand();
    private final StringBuilder log = new StringBuilder();

    private PlainLandTest(long seed) {
        random = new Random(seed);
    }

    public static void main(String[] args) throws Exception {
        List<Method> methods = new ArrayList<>();
        for (Method method : PlainLand.class.getDeclaredMethods()) {
            if (java.lang.reflect.Modifier.isPublic(method.getModifiers())) {
                methods.add(method);
            }
        }
        methods.sort(java.util.Comparator.comparing(Method::getName));
        if (methods.size() != 45) {
            System.out.println("the face has 45 methods, here are " + methods.size());
            System.exit(1);
        }
        int size = methods.size();
        for (String name : MORE) {
            for (int i = 0; i < size; i++) {
                if (methods.get(i).getName().equals(name)) {
                    methods.add(methods.get(i));
                }
            }
        }
        for (int run = 0; run < RUNS; run++) {
            PlainLandTest test = new PlainLandTest(run);
            if (!test.isSame(methods)) {
                System.out.println("run " + run + ": " + test.log);
                System.exit(1);
            }
        }
        System.out.println(RUNS + " runs of " + CALLS + " calls are the same");
        for (int i = 0; i < TEXTS; i++) {
            PlainLandTest test = new PlainLandTest(i);
            if (!test.isSameText()) {
                System.out.println("text " + i + ": " + test.log);
                System.exit(1);
            }
        }
        System.out.println(TEXTS + " texts are the same");
    }

    private boolean isSame(List<Method> methods) throws Exception {
        // The gentler half of the runs hardly has wrong inputs, so that lands grow old.
        int wildOf = random.nextInt(2) == 0 ? 12 : 60;
        for (int call = 0; call < CALLS; call++) {
            Method method = methods.get(random.nextInt(methods.size()));
            if (method.getName().equals("text") && !feedText()) {
                return false;
            }
            if (method.getName().equals("check") && random.nextInt(2) == 0 && !tellOrder()) {
                return false;
            }
            Object[] args = new Object[method.getParameterCount()];
            for (int i = 0; i < args.length; i++) {
                args[i] = argument(method.getName(), i, random.nextInt(wildOf) == 0);
            }
            if (method.getName().equals("feed")) {
                args[0] = random.nextLong();
            }
            if (!isSame(method.getName(), args)) {
                return false;
            }
        }
        return true;
    }

    private boolean isSame(String name, Object... args) throws Exception {
        Class<?>[] types = new Class<?>[args.length];
        for (int i = 0; i < args.length; i++) {
            types[i] = args[i] instanceof Long ? long.class : int.class;
        }
        int want = (int) PlainLand.class.getMethod(name, types).invoke(plain, args);
        int got = (int) EmptyLand.class.getMethod(name, types).invoke(land, args);
        log.append('\n').append(name).append(java.util.Arrays.toString(args)).append(" -> ").append(got);
        if (got != want) {
            log.append(", due is ").append(want);
        }
        return got == want;
    }

    private int upTo(int most) {
        return random.nextInt(most + 1);
    }

    private int argument(String name, int i, boolean wild) {
        if (wild) {
            return random.nextInt(3) == 0 ? random.nextInt() : WILD[random.nextInt(WILD.length)];
        }
        int villages = Math.max(0, plain.count(1) - 1);
        int things = Math.max(0, plain.count(2) - 1);
        int n = random.nextInt(4) == 0 ? upTo(40) : upTo(8);
        int bits = new int[] {0, 8, 16, 16, 16, 32, 32}[random.nextInt(7)];
        return switch (name) {
            case "village" -> i == 0 ? 100 * upTo(9) + upTo(9) : upTo(random.nextInt(9) == 0 ? 99999 : 400);
            case "people" -> i == 0 ? upTo(villages) : upTo(4);
            case "become" -> i == 0 ? upTo(villages) : i == 1 ? upTo(2) : upTo(random.nextInt(9) == 0 ? 99999 : 400);
            case "made" -> 1 + upTo(2);
            case "pace" -> 1 + upTo(8);
            case "way", "comfort" -> upTo(villages);
            case "mend" -> i < 2 ? upTo(villages) : upTo(1);
            case "thing" -> i == 0 ? 10 * upTo(6) + upTo(villages) : i == 1 ? upTo(60) : i == 2 ? upTo(500) : upTo(30);
            case "ofThing" -> i == 0 ? upTo(things) : upTo(9);
            case "as" -> i == 0 ? upTo(things) : upTo(6);
            case "open" -> i == 0 ? upTo(things) : upTo(1);
            case "promise" -> i == 0 ? upTo(things) : plain.count(0) + upTo(12) - 2;
            case "feed" -> 1 + upTo(7);
            case "text" -> upTo(2);
            case "law" -> i == 0 ? upTo(2) : upTo(60);
            case "rate" -> i == 0 ? upTo(5) : upTo(20);
            case "years" -> 1 + upTo(2);
            case "left" -> i == 0 ? n : upTo(3);
            case "then" -> i == 0 ? n : i == 1 ? upTo(villages) : upTo(3);
            case "falls" -> i == 0 ? upTo(villages) : n;
            case "keep" -> i == 0 ? upTo(200) : i == 1 ? n : upTo(1);
            case "when", "worth" -> i == 0 ? upTo(things) : n;
            case "edge" -> i == 0 ? upTo(things) : upTo(6);
            case "promised" -> i == 0 ? upTo(things) : i == 1 ? plain.count(0) + upTo(12) : n;
            case "site", "join" -> upTo(things);
            case "voice" -> i == 0 ? upTo(things) : i == 1 ? upTo(3) : random.nextInt();
            case "trace" -> upTo(9);
            case "sheet" -> i == 0 ? upTo(3) : i == 1 ? bits : upTo(40);
            case "put" -> i == 0 ? upTo(3) : i == 1 ? upTo(12) : upTo(30);
            case "move" -> i == 0 || i == 2 ? upTo(3) : upTo(12);
            case "villages" -> upTo(3);
            case "tell" -> upTo(villages);
            case "count" -> upTo(8);
            case "told" -> 1 + upTo(4);
            default -> n;
        };
    }

    /** Tells the villages as they are due now. */
    private boolean tellOrder() throws Exception {
        List<Integer> order = new ArrayList<>();
        for (int v = 0; v < plain.count(1); v++) {
            order.add(v);
        }
        order.sort(java.util.Comparator.comparingInt(v -> -plain.people(v, 3)));
        // The same question to both: told() may differ by no call.
        for (int v = 0; v < order.size(); v++) {
            land.people(v, 3);
        }
        for (int v : order) {
            if (!isSame("tell", v)) {
                return false;
            }
        }
        return true;
    }

    /** A text that is well made but for a few signs, if any; read, then worked out with drawn numbers. */
    private boolean isSameText() {
        int use = upTo(2);
        StringBuilder text = new StringBuilder(drawText(use, upTo(6)));
        for (int i = upTo(3); i > 1; i--) {
            int at = upTo(text.length());
            if (random.nextInt(2) == 0 || at == text.length()) {
                text.insert(at, SIGNS.charAt(random.nextInt(SIGNS.length())));
            } else {
                text.setCharAt(at, SIGNS.charAt(random.nextInt(SIGNS.length())));
            }
        }
        text.setLength(Math.min(50, text.length()));
        log.append(text);
        boolean same = Due.text(land, use, text.toString()) == textOfPlain(use, text);
        for (int i = 0; i < 3; i++) {
            int a = argument("voice", 2, i == 0) % (i == 2 ? 30 : Integer.MAX_VALUE);
            int b = argument("voice", 2, i == 0) % (i == 2 ? 30 : Integer.MAX_VALUE);
            same &= land.law(use, a, b, i) == plain.law(use, a, b, i);
        }
        return same;
    }

    private int textOfPlain(int use, CharSequence text) {
        for (int i = 0; i < text.length(); i++) {
            plain.feed(text.charAt(i), 1);
        }
        return plain.text(use);
    }

    private boolean feedText() throws Exception {
        String text = drawText(upTo(2), random.nextInt(4));
        for (int i = 0; i < text.length(); i++) {
            if (!isSame("feed", (long) text.charAt(i), 1)) {
                return false;
            }
        }
        return true;
    }

    private String drawText(int use, int deep) {
        String signs = "|&<=>+-*/%+-*";
        StringBuilder text = new StringBuilder();
        int parts = 1 + upTo(3);
        for (int i = 0; i < parts; i++) {
            text.append(i == 0 ? "" : signs.charAt(random.nextInt(signs.length())));
            switch (random.nextInt(deep > 0 ? 4 : 2)) {
                case 0 -> text.append(random.nextInt(random.nextInt(9) == 0 ? 20000 : 30));
                case 1 -> text.append(NAMES[use].charAt(random.nextInt(NAMES[use].length())));
                case 2 -> text.append('!').append(random.nextInt(3));
                default -> text.append('(').append(drawText(use, deep - 1)).append(')');
            }
        }
        return text.toString();
    }
}
