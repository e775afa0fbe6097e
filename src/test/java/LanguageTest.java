import java.io.IOException;
import java.lang.reflect.Method;
import java.lang.reflect.Modifier;
import java.nio.file.Files;
import java.nio.file.Path;
import java.util.Arrays;
import java.util.HashSet;
import java.util.List;
import java.util.Set;
import java.util.regex.Matcher;
import java.util.regex.Pattern;

/** Looks for what the rules of ../shared/LANGUAGE.md leave out, as far as a look at the text can tell. */
public final class LanguageTest {
    private static final Path SOURCE = Path.of("src/main/java/LaneKeep.java");
    private static final List<String> BANNED = List.of("->", "::", "\\bfinally\\b", "\\btry\\b", "\\bcatch\\b",
            "\\bsynchronized\\b", "\\bassert\\b", "\\bvar\\b", "static \\{", "\\w+Exact\\b", "\\bprotected\\b", "\\bThread\\b",
            "\\bRandom\\b", "\\bequals\\b", "\\bhashCode\\b", "\\btoString\\b", "\\bStringBuilder\\b", "\\bfor \\(;;",
            "while \\(true\\)", "\\bObject\\b", "@\\w+");
    private static final Set<String> LIBRARY = Set.of("Arrays.fill", "System.arraycopy", "Math.min", "Math.max", "Math.abs",
            "Math.floorMod", "Integer.bitCount");
    private static final Set<String> EXCEPTIONS = Set.of("IllegalStateException", "IllegalArgumentException",
            "IndexOutOfBoundsException", "ArithmeticException", "UnsupportedOperationException", "NoSuchElementException");
    private static int wrong;

    public static void main(String[] args) throws IOException {
        String text = Files.readString(SOURCE);
        check(text.chars().allMatch(sign -> sign == '\n' || sign >= 32 && sign < 127), "a sign beyond 127, or a tab");
        String code = text.replaceAll("(?s)/\\*.*?\\*/", "").replaceAll("//.*", "").replaceAll("\"[^\"]*\"", "\"\"");
        for (String banned : BANNED) {
            check(!Pattern.compile(banned).matcher(code).find(), "found " + banned);
        }
        checkAll(code, "import ([\\w.]+);", Set.of("java.util.Arrays", "java.util.NoSuchElementException"));
        checkAll(code, "\\b((?:Arrays|System|Math|Integer|Long|String|Character|Float|Double)\\.\\w+)", LIBRARY);
        checkAll(code, "\\bthrow (?:new )?(\\w+)", EXCEPTIONS);
        check(!Pattern.compile("\"\" \\+|\\+ \"\"").matcher(code).find(), "texts joined by +");
        checkMethods(code);
        checkClasses();
        System.out.println("the rules of LANGUAGE.md, " + wrong + " wrong");
        if (wrong != 0) {
            System.exit(1);
        }
    }

    private static void check(boolean holds, String what) {
        if (!holds) {
            wrong++;
            System.out.println(what);
        }
    }

    private static void checkAll(String code, String pattern, Set<String> allowed) {
        Matcher found = Pattern.compile(pattern).matcher(code);
        while (found.find()) {
            check(allowed.contains(found.group(1)), "not in the rules: " + found.group(1));
        }
    }

    private static void checkMethods(String code) {
        Matcher head = Pattern.compile("\n( +)(?:(?:public|private|static|final) )*\\w+(?:\\[\\])?(?: \\w+)?\\(([^)]*)\\)[^;{]*\\{\n")
                .matcher(code);
        int found = 0;
        while (head.find()) {
            if (!head.group().matches("(?s).*\\b(if|for|while|switch|else|catch)\\b.*")) {
                found++;
                int end = code.indexOf("\n" + head.group(1) + "}", head.end() - 1);
                long lines = code.substring(head.start() + 1, end).lines().count() + 1;
                check(lines <= 60, "a method of " + lines + " lines: " + head.group().strip());
                check(head.group(2).split(",").length <= 7, "more than seven parameters: " + head.group().strip());
            }
        }
        check(found > 100, "methods found: " + found);
    }

    private static void checkClasses() {
        Set<String> face = new HashSet<>();
        for (Method method : LaneKeep.class.getMethods()) {
            face.add(method.getName());
        }
        Class<?>[] inside = LaneKeep.class.getDeclaredClasses();
        check(inside.length + 1 <= 12, "classes: " + (inside.length + 1));
        checkFields(LaneKeep.class);
        for (Class<?> one : inside) {
            checkFields(one);
            for (Method method : one.getDeclaredMethods()) {
                check(!face.contains(method.getName()), "a method with the name of a public one: " + method);
            }
        }
        for (Method method : LaneKeep.class.getDeclaredMethods()) {
            check(!Modifier.isPrivate(method.getModifiers()) || !face.contains(method.getName()),
                    "a private method with the name of a public one: " + method);
        }
    }

    private static void checkFields(Class<?> one) {
        long fields = Arrays.stream(one.getDeclaredFields()).filter(field -> !Modifier.isStatic(field.getModifiers())).count();
        check(fields <= 20, one.getSimpleName() + " has " + fields + " fields");
        Arrays.stream(one.getDeclaredFields()).filter(field -> Modifier.isStatic(field.getModifiers()))
                .forEach(field -> check(Modifier.isFinal(field.getModifiers()), "a static field that is not final: " + field));
    }
}
