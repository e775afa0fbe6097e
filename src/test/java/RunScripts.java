import java.io.IOException;
import java.lang.reflect.InvocationTargetException;
import java.lang.reflect.Method;
import java.nio.file.Files;
import java.nio.file.Path;
import java.util.ArrayList;
import java.util.List;
import java.util.Set;
import java.util.TreeSet;
import java.util.regex.Matcher;
import java.util.regex.Pattern;
import java.util.stream.Stream;

/**
 * Does the runs of calls under src/test/runs. A line there is "new", a call with the answer that is due, as in
 * "setRock(1, 0, true) = false" or "level(0) = throws.IndexOutOfBoundsException", or a comment behind '#'.
 */
public final class RunScripts {
    private static final Pattern CALL = Pattern.compile("(\\w+)\\((.*?)\\) = (.+)");
    private static final Path RUNS = Path.of("src/test/runs");

    private final Set<String> called = new TreeSet<>();
    private int calls;
    private int wrong;

    public static void main(String[] args) throws IOException {
        RunScripts runs = new RunScripts();
        List<Path> scripts = new ArrayList<>();
        try (Stream<Path> found = Files.list(RUNS)) {
            found.filter(path -> path.toString().endsWith(".txt")).sorted().forEach(scripts::add);
        }
        for (Path script : scripts) {
            runs.runScript(script);
        }
        runs.checkThatAllAreCalled();
        System.out.println(runs.calls + " calls of " + scripts.size() + " scripts, " + runs.wrong + " wrong");
        if (runs.wrong != 0 || scripts.isEmpty()) {
            System.exit(1);
        }
    }

    private void runScript(Path script) throws IOException {
        LaneKeep land = null;
        int number = 0;
        for (String raw : Files.readAllLines(script)) {
            number++;
            String line = raw.replaceFirst("#(?!').*", "").strip();
            if (line.equals("new")) {
                land = new LaneKeep();
            } else if (!line.isEmpty()) {
                Matcher call = CALL.matcher(line);
                String got = call.matches() && land != null ? answer(land, call.group(1), call.group(2)) : "no call";
                calls++;
                if (!call.matches() || !got.equals(call.group(3))) {
                    wrong++;
                    System.out.println(script + ":" + number + ": " + line + ", but it answered " + got);
                }
            }
        }
    }

    private String answer(LaneKeep land, String name, String told) {
        called.add(name);
        for (Method method : LaneKeep.class.getMethods()) {
            if (method.getName().equals(name) && method.getDeclaringClass() == LaneKeep.class) {
                try {
                    return textOf(method.invoke(land, argumentsOf(told)));
                } catch (InvocationTargetException thrown) {
                    return "throws." + thrown.getCause().getClass().getSimpleName();
                } catch (IllegalAccessException | IllegalArgumentException wrongCall) {
                    return "no such call: " + wrongCall;
                }
            }
        }
        return "no such method";
    }

    private static Object[] argumentsOf(String told) {
        if (told.isBlank()) {
            return new Object[0];
        }
        List<Object> arguments = new ArrayList<>();
        for (String argument : told.split(", ")) {
            if (argument.startsWith("'")) {
                arguments.add(argument.charAt(1));
            } else if (argument.equals("true") || argument.equals("false")) {
                arguments.add(argument.equals("true"));
            } else {
                arguments.add(Integer.parseInt(argument));
            }
        }
        return arguments.toArray();
    }

    private static String textOf(Object answer) {
        return answer instanceof Character ? "'" + answer + "'" : String.valueOf(answer);
    }

    private void checkThatAllAreCalled() {
        for (Method method : LaneKeep.class.getMethods()) {
            if (method.getDeclaringClass() == LaneKeep.class && !called.contains(method.getName())) {
                wrong++;
                System.out.println("no script calls " + method.getName());
            }
        }
    }
}
