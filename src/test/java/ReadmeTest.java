import java.lang.reflect.Method;
import java.lang.reflect.Modifier;
import java.nio.file.DirectoryStream;
import java.nio.file.Files;
import java.nio.file.Path;
import java.util.HashMap;
import java.util.Map;
import java.util.Set;
import java.util.TreeSet;
import java.util.regex.Matcher;
import java.util.regex.Pattern;

/** What README.md says holds: its example answers as it says, all calls and all tests stand there, and no others. */
final class ReadmeTest {
    private static final Pattern CALL =
        Pattern.compile("(?:int (\\w+) = )?land\\.(\\w+)\\(([^)]*)\\);\\s+// (-?\\d+)(?::.*)?");
    private static final String MAKES = "EmptyLand land = new EmptyLand();";

    private final Due due = new Due();
    private final Map<String, Method> face = new HashMap<>();
    private final Map<String, Integer> named = new HashMap<>();
    private final EmptyLand land = new EmptyLand();

    public static void main(String[] args) throws Exception {
        String page = Files.readString(Path.of("README.md"));
        ReadmeTest test = new ReadmeTest();
        for (Method method : EmptyLand.class.getDeclaredMethods()) {
            if (Modifier.isPublic(method.getModifiers())) {
                test.face.put(method.getName(), method);
            }
        }
        test.example(page);
        test.calls(page);
        test.tests(page);
        test.due.end();
    }

    private void example(String page) throws Exception {
        int from = page.indexOf("```java\n") + "```java\n".length();
        int ran = 0;
        for (String line : page.substring(from, page.indexOf("```", from)).split("\n")) {
            if (line.isBlank() || line.startsWith("//") || line.equals(MAKES)) {
                continue;
            }
            Matcher call = CALL.matcher(line);
            due.is("the example's line can be run: " + line, call.matches() ? 1 : 0, 1);
            if (call.matches()) {
                ran++;
                run(call);
            }
        }
        due.is("the example has lines", ran > 0 ? 1 : 0, 1);
    }

    private void run(Matcher call) throws Exception {
        Method method = face.get(call.group(2));
        due.is(call.group(2) + " is a call of the class", method == null ? 0 : 1, 1);
        if (method == null) {
            return;
        }
        String[] words = call.group(3).isEmpty() ? new String[0] : call.group(3).split(", ");
        Object[] args = new Object[words.length];
        for (int i = 0; i < args.length; i++) {
            boolean isLong = method.getParameterTypes()[i] == long.class;
            args[i] = isLong ? (Object) Long.decode(words[i].replace("L", "")) : (Object) number(words[i]);
        }
        int got = (int) method.invoke(land, args);
        due.is(call.group(2) + "(" + call.group(3) + ")", got, Integer.parseInt(call.group(4)));
        if (call.group(1) != null) {
            named.put(call.group(1), got);
        }
    }

    private int number(String word) {
        Integer kept = named.get(word);
        return kept == null ? Integer.parseInt(word) : kept;
    }

    private void calls(String page) {
        Set<String> told = found(page, "| calls |", "`(\\w+)`");
        due.is("the table of calls: " + told, told.containsAll(face.keySet()) ? 1 : 0, 1);
        told.removeAll(face.keySet());
        due.is("calls in the table that aren't there: " + told, told.size(), 0);
    }

    private void tests(String page) throws Exception {
        Set<String> told = found(page, "| test |", "\\b(\\w+Test)\\b");
        Set<String> there = new TreeSet<>();
        try (DirectoryStream<Path> files = Files.newDirectoryStream(Path.of("src/test/java"), "*Test.java")) {
            for (Path file : files) {
                there.add(file.getFileName().toString().replace(".java", ""));
            }
        }
        due.is("the table of tests: " + told + ", tests: " + there, told.equals(there) ? 1 : 0, 1);
    }

    /** What a pattern finds in the table that begins so. */
    private static Set<String> found(String page, String head, String pattern) {
        int from = Math.max(0, page.indexOf(head));
        int end = page.indexOf("\n\n", from);
        Matcher one = Pattern.compile(pattern).matcher(page.substring(from, end < 0 ? page.length() : end));
        Set<String> all = new TreeSet<>();
        while (one.find()) {
            all.add(one.group(1));
        }
        return all;
    }
}
