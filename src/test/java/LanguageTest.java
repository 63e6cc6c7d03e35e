import java.io.IOException;
import java.lang.reflect.Field;
import java.lang.reflect.Method;
import java.lang.reflect.Modifier;
import java.nio.file.Files;
import java.nio.file.Path;
import java.util.ArrayList;
import java.util.List;
import java.util.Set;
import java.util.TreeSet;
import java.util.regex.Matcher;
import java.util.regex.Pattern;

/** Those rules of LANGUAGE.md that can be read off the file or its classes; the rule's number stands in each line. */
public final class LanguageTest {
    private static final Checks checks = new Checks();
    private static final Set<String> LIBRARY = Set.of("String", "StringBuilder", "Integer", "Long", "Math", "System", "ArrayList", "List",
        "Arrays", "Iterator", "Iterable", "Comparable");
    private static final String IMPORTS = "import (?!java\\.util\\.(ArrayList|List|Arrays|Iterator);)";
    private static final String[] FORBIDDEN = {"throw", "throws", "try", "catch", "synchronized", "assert"};

    public static void main(String[] args) throws IOException {
        String file = Files.readString(Path.of(System.getProperty("project", "."), "src/main/java/KeySealer.java"));
        String code = withoutTexts(file);
        forbidden(code);
        library(code);
        lengths(code);
        List<Class<?>> classes = new ArrayList<>(List.of(KeySealer.class.getDeclaredClasses()));
        classes.add(KeySealer.class);
        checks.due("11: classes", classes.size() <= 12 ? 1 : 0, 1);
        for (Class<?> one : classes) {
            fields(one);
            methods(one);
        }
        checks.end("LanguageTest");
    }

    /** Comments and texts may hold any word; they become spaces, line for line. */
    private static String withoutTexts(String file) {
        Matcher found = Pattern.compile("/\\*.*?\\*/|//[^\n]*|\"[^\"\n]*\"", Pattern.DOTALL).matcher(file);
        return found.replaceAll(each -> each.group().replaceAll("[^\n]", " "));
    }

    private static int count(String code, String pattern) {
        return (int) Pattern.compile(pattern).matcher(code).results().count();
    }

    private static void forbidden(String code) {
        for (String word : FORBIDDEN) {
            checks.due("6: " + word, count(code, "\\b" + word + "\\b"), 0);
        }
        checks.due("a package line", count(code, "\\bpackage\\b"), 0);
        checks.due("2: lambdas and method references", count(code, "->|::"), 0);
        checks.due("2: classes that are not static, but for the one", count(code, "(?<!static |static final )\\bclass\\b"), 1);
        checks.due("2: anonymous classes", count(code, "\\bnew \\w+\\([^;{]*\\)\\s*\\{"), 0);
        checks.due("4: imports", count(code, IMPORTS), 0);
        checks.due("5: static blocks", count(code, "\\bstatic\\s*\\{"), 0);
        checks.due("9: loops without an end", count(code, "while\\s*\\(true\\)|for\\s*\\([^;]*;\\s*;"), 0);
    }

    /** Names with a capital and small letters are the file's own classes, or of the library's part that is left. */
    private static void library(String code) {
        Set<String> known = new TreeSet<>(LIBRARY);
        known.add("KeySealer");
        for (Class<?> one : KeySealer.class.getDeclaredClasses()) {
            known.add(one.getSimpleName());
        }
        Matcher names = Pattern.compile("\\b[A-Z]\\w*[a-z]\\w*\\b").matcher(code);
        while (names.find()) {
            checks.due("4: " + names.group(), known.contains(names.group()) ? 1 : 0, 1);
        }
        checks.due("4: System but for arraycopy", count(code, "\\bSystem\\.(?!arraycopy\\b)"), 0);
        checks.due("4: functions that throw", count(code, "\\.\\w+Exact\\b"), 0);
    }

    /** A method begins where a line at the depth of members opens a brace, and ends at its own. */
    private static void lengths(String code) {
        String[] lines = code.split("\n");
        for (int i = 0; i < lines.length; i++) {
            Matcher head = Pattern.compile("^( {4}| {8})(?! )[^=]*\\(.*").matcher(lines[i]);
            if (head.matches() && !lines[i].contains(";")) {
                int end = i;
                while (end < lines.length && !lines[end].equals(head.group(1) + "}")) {
                    end++;
                }
                checks.due("11: lines of" + lines[i], end - i < 60 ? 1 : 0, 1);
            }
        }
    }

    private static void fields(Class<?> one) {
        Set<Class<?>> constants = Set.of(int.class, long.class, boolean.class, char.class, String.class,
                int[].class, long[].class, char[].class, byte[].class);
        int own = 0;
        for (Field field : one.getDeclaredFields()) {
            if (Modifier.isStatic(field.getModifiers())) {
                checks.due("5: " + field, Modifier.isFinal(field.getModifiers()) && constants.contains(field.getType()) ? 1 : 0, 1);
            } else {
                own++;
            }
        }
        checks.due("11: fields of " + one, own <= 20 ? 1 : 0, 1);
    }

    private static void methods(Class<?> one) {
        Set<String> open = new TreeSet<>();
        for (Method method : KeySealer.class.getDeclaredMethods()) {
            if (Modifier.isPublic(method.getModifiers())) {
                open.add(method.getName());
            }
        }
        for (Method method : one.getDeclaredMethods()) {
            checks.due("11: parameters of " + method, method.getParameterCount() <= 7 ? 1 : 0, 1);
            checks.due("2: made by the compiler: " + method, method.isSynthetic() ? 1 : 0, 0);
            checks.due("6: " + method, Set.of("equals", "hashCode", "toString").contains(method.getName()) ? 1 : 0, 0);
            if (Modifier.isPrivate(method.getModifiers())) {
                checks.due("1: " + method, open.contains(method.getName()) ? 1 : 0, 0);
            }
        }
    }
}
