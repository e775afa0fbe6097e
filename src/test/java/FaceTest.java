import java.io.IOException;
import java.lang.reflect.Constructor;
import java.lang.reflect.Field;
import java.lang.reflect.Method;
import java.lang.reflect.Modifier;
import java.nio.file.Files;
import java.nio.file.Path;
import java.util.Set;
import java.util.TreeSet;
import java.util.regex.Matcher;
import java.util.regex.Pattern;

/** Compares the members of the class with the public face that the document shows. */
public final class FaceTest {
    private static final Path DOCUMENT = Path.of("../shared/DOC.md");
    private static int wrong;

    public static void main(String[] args) throws IOException {
        Set<String> due = faceOfDocument();
        Set<String> got = faceOfClass();
        check(due.size() == 44, "the document's face has " + due.size() + " members");
        for (String member : due) {
            check(got.contains(member), "missing: " + member);
        }
        for (String member : got) {
            check(due.contains(member), "not in the document: " + member);
        }
        check(Modifier.isPublic(LaneKeep.class.getModifiers()) && Modifier.isFinal(LaneKeep.class.getModifiers()),
                "the class is public and final");
        for (Field field : LaneKeep.class.getDeclaredFields()) {
            check(Modifier.isPrivate(field.getModifiers()), "a field that is not private: " + field.getName());
        }
        for (Class<?> inside : LaneKeep.class.getDeclaredClasses()) {
            int modifiers = inside.getModifiers();
            check(Modifier.isStatic(modifiers) && !Modifier.isPublic(modifiers) && !Modifier.isProtected(modifiers),
                    "a class inside: " + inside.getName());
        }
        System.out.println(due.size() + " members, " + wrong + " wrong");
        if (wrong != 0) {
            System.exit(1);
        }
    }

    private static void check(boolean holds, String what) {
        if (!holds) {
            wrong++;
            System.out.println(what);
        }
    }

    private static Set<String> faceOfDocument() throws IOException {
        Set<String> face = new TreeSet<>();
        Matcher member = Pattern.compile("public ((?:\\w+ )?\\w+)\\((.*?)\\)(?: throws (.*?))?;").matcher(Files.readString(DOCUMENT));
        while (member.find()) {
            String types = member.group(2).replaceAll("(\\w+) \\w+", "$1");
            String thrown = member.group(3) == null ? "" : member.group(3);
            face.add(member.group(1) + "(" + types + ") " + thrown);
        }
        return face;
    }

    private static Set<String> faceOfClass() {
        Set<String> face = new TreeSet<>();
        for (Constructor<?> made : LaneKeep.class.getDeclaredConstructors()) {
            face.add("LaneKeep(" + names(made.getParameterTypes()) + ") " + names(made.getExceptionTypes()));
        }
        for (Method method : LaneKeep.class.getDeclaredMethods()) {
            if (!Modifier.isPrivate(method.getModifiers())) {
                face.add(method.getReturnType().getSimpleName() + " " + method.getName() + "(" + names(method.getParameterTypes())
                        + ") " + names(method.getExceptionTypes()));
            }
        }
        return face;
    }

    private static String names(Class<?>[] types) {
        StringBuilder names = new StringBuilder();
        for (Class<?> type : types) {
            names.append(names.length() == 0 ? "" : ", ").append(type.getSimpleName());
        }
        return names.toString();
    }
}
