import java.lang.reflect.Constructor;
import java.lang.reflect.Field;
import java.lang.reflect.Method;
import java.lang.reflect.Modifier;
import java.nio.file.Files;
import java.nio.file.Path;
import java.util.List;
import java.util.Set;
import java.util.TreeSet;
import java.util.regex.Matcher;
import java.util.regex.Pattern;

/** Rules of LANGUAGE.md that can be read off the source and the class, and the document's face. */
final class LanguageTest {
    private static int wrong = 0;

    public static void main(String[] args) throws Exception {
        String source = Files.readString(Path.of("src/main/java/EmptyLand.java"));
        String code = source.replaceAll("(?s)/\\*.*?\\*/", "").replaceAll("//[^\n]*", "");
        words(code);
        sizes(code);
        face();
        nested(EmptyLand.class);
        System.out.println(wrong == 0 ? "the rules are kept" : wrong + " rules are broken");
        if (wrong != 0) {
            System.exit(1);
        }
    }

    private static void broken(String what) {
        wrong++;
        System.out.println(what);
    }

    private static void words(String code) {
        List<String> forbidden = List.of("\\bthrow\\b", "\\btry\\b", "\\bcatch\\b", "\\bsynchronized\\b", "\\bassert\\b",
            "\\bimport\\b", "\\bpackage\\b", "->", "::", "@", "\\bstatic\\s*\\{", "Exact\\b", "\\bprotected\\b",
            "\\bnew\\s+\\w+\\s*\\([^()]*\\)\\s*\\{", "\\bObject\\b", "\\bvar\\b", "\"\\s*\\+", "\\+\\s*\"",
            "\\bSystem\\.(?!arraycopy)", "\\bwhile\\b", "[^\\x00-\\x7F]");
        for (String word : forbidden) {
            Matcher found = Pattern.compile(word).matcher(code);
            if (found.find()) {
                broken("the source has " + found.group());
            }
        }
    }

    private static void sizes(String code) {
        Matcher header = Pattern.compile("(?m)^( +)(?:(?:public|private|static|final) )*[\\w\\[\\]]+ (\\w+)\\(([^)]*)\\) \\{$").matcher(code);
        while (header.find()) {
            int end = code.indexOf("\n" + header.group(1) + "}", header.end());
            long lines = code.substring(header.start(), end).lines().count() + 1;
            if (lines > 60) {
                broken(header.group(2) + " has " + lines + " lines");
            }
            if (header.group(3).split(",").length > 7) {
                broken(header.group(2) + " has too many parameters");
            }
        }
    }

    private static void face() throws Exception {
        String doc = Files.readString(Path.of("../shared/DOC.md"));
        String block = doc.substring(doc.indexOf("```java"), doc.indexOf("```", doc.indexOf("```java") + 3));
        Set<String> want = new TreeSet<>();
        Matcher line = Pattern.compile("public int (\\w+)\\(([^)]*)\\);").matcher(block);
        while (line.find()) {
            want.add(line.group(1) + "(" + line.group(2).replaceAll(" \\w+(,|$)", "$1").replace(" ", "") + ")");
        }
        Set<String> got = new TreeSet<>();
        Set<String> names = new TreeSet<>();
        for (Method method : EmptyLand.class.getDeclaredMethods()) {
            if (Modifier.isPublic(method.getModifiers())) {
                StringBuilder types = new StringBuilder();
                for (Class<?> type : method.getParameterTypes()) {
                    types.append(types.length() == 0 ? "" : ",").append(type.getName());
                }
                got.add(method.getName() + "(" + types + ")");
                names.add(method.getName());
            }
        }
        if (!want.equals(got)) {
            broken("the face is " + got + ", due is " + want);
        }
        for (Class<?> one : EmptyLand.class.getDeclaredClasses()) {
            for (Method method : one.getDeclaredMethods()) {
                if (names.contains(method.getName())) {
                    broken(one.getName() + "." + method.getName() + " bears the name of a public method");
                }
            }
        }
        for (Method method : EmptyLand.class.getDeclaredMethods()) {
            if (!Modifier.isPublic(method.getModifiers())
                && (!Modifier.isPrivate(method.getModifiers()) || names.contains(method.getName()))) {
                broken("EmptyLand." + method.getName() + " isn't private, or bears the name of a public method");
            }
        }
        for (Field field : EmptyLand.class.getDeclaredFields()) {
            if (!Modifier.isPrivate(field.getModifiers())) {
                broken("the field " + field.getName() + " isn't private");
            }
        }
        Constructor<?>[] made = EmptyLand.class.getDeclaredConstructors();
        if (made.length != 1 || made[0].getParameterCount() != 0 || !Modifier.isPublic(made[0].getModifiers())
            || !Modifier.isFinal(EmptyLand.class.getModifiers())) {
            broken("the constructor or the class isn't as told");
        }
    }

    private static void nested(Class<?> outer) {
        if (outer.getDeclaredClasses().length > 11) {
            broken("more than twelve classes");
        }
        for (Class<?> one : outer.getDeclaredClasses()) {
            if (!Modifier.isStatic(one.getModifiers()) || Modifier.isPublic(one.getModifiers())) {
                broken(one.getName() + " isn't static, or is public");
            }
            long fields = 0;
            for (Field field : one.getDeclaredFields()) {
                fields += Modifier.isStatic(field.getModifiers()) ? 0 : 1;
                if (Modifier.isStatic(field.getModifiers()) && !Modifier.isFinal(field.getModifiers())) {
                    broken(field + " is static and not final");
                }
            }
            if (fields > 20) {
                broken(one.getName() + " has " + fields + " fields");
            }
        }
    }
}
