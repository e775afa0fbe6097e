import java.io.IOException;
import java.lang.reflect.InvocationTargetException;
import java.lang.reflect.Method;
import java.nio.file.Files;
import java.nio.file.Path;
import java.util.ArrayList;
import java.util.Arrays;
import java.util.HashMap;
import java.util.List;
import java.util.Map;
import java.util.Set;
import java.util.TreeSet;
import java.util.function.Supplier;
import java.util.regex.Matcher;
import java.util.regex.Pattern;
import java.util.stream.Stream;

/**
 * Does the runs of calls under src/test/runs. A line there is "new", a call with the answer that is due, as in
 * "setRock(1, 0, true) = false" or "level(0) = throws.IndexOutOfBoundsException", the same with "20 times " ahead of
 * it, or a comment behind '#'. A call that throws must change nothing: an object that had it and one that had it not
 * are compared, and again as both go on.
 */
public final class RunScripts {
    private static final Pattern CALL = Pattern.compile("(?:(\\d+) times )?(\\w+)\\((.*?)\\) = (.+)");
    private static final Path RUNS = Path.of("src/test/runs");
    private static final String THROWS = "throws.";
    private static final Map<String, Method> FACE = new HashMap<>();

    private final Set<String> called = new TreeSet<>();
    private int calls;
    private int refused;
    private int wrong;

    private record Step(String where, String line, String name, Object[] arguments, String due) {
    }

    public static void main(String[] args) throws IOException {
        for (Method method : LaneKeep.class.getDeclaredMethods()) {
            if (java.lang.reflect.Modifier.isPublic(method.getModifiers())) {
                FACE.put(method.getName(), method);
            }
        }
        RunScripts runs = new RunScripts();
        List<Path> scripts = new ArrayList<>();
        try (Stream<Path> found = Files.list(RUNS)) {
            found.filter(path -> path.toString().endsWith(".txt")).sorted().forEach(scripts::add);
        }
        for (Path script : scripts) {
            for (List<Step> run : runs.runsOf(script)) {
                runs.play(run);
                runs.checkRefusals(run);
            }
        }
        runs.checkThatAllAreCalled();
        System.out.println(runs.calls + " calls of " + scripts.size() + " scripts, " + runs.refused + " of them refused, "
                + runs.wrong + " wrong");
        if (runs.wrong != 0 || scripts.isEmpty()) {
            System.exit(1);
        }
    }

    private List<List<Step>> runsOf(Path script) throws IOException {
        List<List<Step>> runs = new ArrayList<>();
        int number = 0;
        for (String raw : Files.readAllLines(script)) {
            number++;
            String where = script + ":" + number;
            String line = raw.replaceFirst("#(?!').*", "").strip();
            Matcher call = CALL.matcher(line);
            if (line.equals("new")) {
                runs.add(new ArrayList<>());
            } else if (call.matches() && !runs.isEmpty()) {
                Step step = new Step(where, line, call.group(2), argumentsOf(call.group(3)), call.group(4));
                int times = call.group(1) == null ? 1 : Integer.parseInt(call.group(1));
                for (int i = 0; i < times; i++) {
                    runs.get(runs.size() - 1).add(step);
                }
            } else if (!line.isEmpty()) {
                wrong++;
                System.out.println(where + ": not a call: " + line);
            }
        }
        return runs;
    }

    private void play(List<Step> run) {
        LaneKeep land = new LaneKeep();
        for (Step step : run) {
            called.add(step.name);
            calls++;
            String got = answer(land, step);
            if (!got.equals(step.due)) {
                wrong++;
                System.out.println(step.where + ": " + step.line + ", but it answered " + got);
            }
        }
    }

    private static String answer(LaneKeep land, Step step) {
        Method method = FACE.get(step.name);
        if (method == null) {
            return "no such method";
        }
        try {
            return textOf(method.invoke(land, step.arguments));
        } catch (InvocationTargetException thrown) {
            return THROWS + thrown.getCause().getClass().getSimpleName();
        } catch (IllegalAccessException | IllegalArgumentException wrongCall) {
            return "no such call: " + wrongCall;
        }
    }

    private static Object[] argumentsOf(String told) {
        if (told.isBlank()) {
            return new Object[0];
        }
        List<Object> arguments = new ArrayList<>();
        for (String argument : told.split(", ")) {
            if (argument.startsWith("'")) {
                arguments.add(argument.charAt(1));
            } else if (argument.equals("true") || argument.equals("false")) {
                arguments.add(argument.equals("true"));
            } else {
                arguments.add(Integer.parseInt(argument));
            }
        }
        return arguments.toArray();
    }

    private static String textOf(Object answer) {
        return answer instanceof Character ? "'" + answer + "'" : String.valueOf(answer);
    }

    private void checkThatAllAreCalled() {
        for (String name : FACE.keySet()) {
            if (!called.contains(name)) {
                wrong++;
                System.out.println("no script calls " + name);
            }
        }
    }

    // ---- a call that throws changes nothing

    private void checkRefusals(List<Step> run) {
        List<Step> done = new ArrayList<>();
        List<String> without = null;
        for (Step step : run) {
            if (step.due.startsWith(THROWS)) {
                refused++;
                without = without == null ? seenAfter(done, null) : without;
                List<String> with = seenAfter(done, step);
                if (!with.equals(without)) {
                    wrong++;
                    System.out.println(step.where + ": " + step.line + " is refused, but changed something: "
                            + firstDifference(without, with));
                }
            } else {
                done.add(step);
                without = null;
            }
        }
    }

    private static String firstDifference(List<String> one, List<String> other) {
        for (int i = 0; i < one.size() && i < other.size(); i++) {
            if (!one.get(i).equals(other.get(i))) {
                return one.get(i) + " without it, " + other.get(i) + " with it";
            }
        }
        return "one of them tells more";
    }

    private static List<String> seenAfter(List<Step> done, Step refusedStep) {
        LaneKeep land = new LaneKeep();
        for (Step step : done) {
            answer(land, step);
        }
        if (refusedStep != null) {
            answer(land, refusedStep);
        }
        List<String> seen = new ArrayList<>();
        lookAt(land, seen);
        goOn(land, seen);
        return seen;
    }

    private static void tell(List<String> seen, String what, Supplier<Object> call) {
        String answer;
        try {
            answer = String.valueOf(call.get());
        } catch (RuntimeException thrown) {
            answer = THROWS + thrown.getClass().getSimpleName();
        }
        seen.add(what + " = " + answer);
    }

    private static void lookAt(LaneKeep land, List<String> seen) {
        tell(seen, "figures", () -> Arrays.asList(land.gold(), land.lives(), land.time(), land.foes(), land.alive(), land.shots(),
                land.lateInputs(), land.failedInputs(), land.isLost(), land.checksum(), land.isSound()));
        tell(seen, "leakShare", land::leakShare);
        tell(seen, "meanLife", land::meanLife);
        for (int y = 0; y < 8; y++) {
            for (int x = 0; x < 10; x++) {
                int atX = x;
                int atY = y;
                String cell = x + ", " + y;
                tell(seen, "cell " + cell, () -> land.cellAt(atX, atY));
                tell(seen, "way " + cell, () -> land.wayLength(atX, atY, false));
                tell(seen, "flight " + cell, () -> land.wayLength(atX, atY, true));
            }
        }
        for (int i = 0; i < 3; i++) {
            int entry = i;
            tell(seen, "cover " + i, () -> land.coverOf(entry));
        }
        for (int i = 0; i < 20; i++) {
            int tower = i;
            tell(seen, "level " + i, () -> land.level(tower));
            tell(seen, "aimed at by " + i, () -> land.aimedAt(tower));
        }
        for (int i = 0; i < land.foes(); i++) {
            int foe = i;
            tell(seen, "end " + i, () -> land.foeEnd(foe));
            tell(seen, "foe " + i, () -> Arrays.asList(land.foeCell(foe), land.foeLife(foe), land.foeShield(foe), land.foeSlow(foe)));
        }
    }

    /** What can't be read shows in what comes of it, and in what a call answers as the one before. */
    private static void goOn(LaneKeep land, List<String> seen) {
        tell(seen, "run 1", () -> land.run(1));
        tell(seen, "sum", land::checksum);
        for (int i = 0; i < 8; i++) {
            tell(seen, "callWave", land::callWave);
        }
        tell(seen, "run 25", () -> land.run(25));
        lookAt(land, seen);
        for (int i = 0; i < 20; i++) {
            int tower = i;
            tell(seen, "aim of " + i, () -> land.setAim(tower, 'n'));
            tell(seen, "program of " + i, () -> land.setProgram(tower, 0));
        }
        for (int i = 0; i < 6; i++) {
            int kind = i;
            tell(seen, "split of " + i, () -> land.setSplit(kind, 0, 1));
            tell(seen, "effect of " + i, () -> land.setEffect(kind, '-', 0, 0));
            tell(seen, "jumps of " + i, () -> land.setJumps(kind, 0));
        }
        tell(seen, "run 1", () -> land.run(1));
        tell(seen, "late", land::lateInputs);
        tell(seen, "order", () -> land.setOrder(1234));
        tell(seen, "plans", () -> land.plan(9999, 0, 0, 0));
        tell(seen, "save", land::save);
        for (int i = 0; i < 3; i++) {
            int save = i;
            tell(seen, "load " + i, () -> land.load(save));
            tell(seen, "run 1 of " + i, () -> land.run(1));
            tell(seen, "sum of " + i, land::checksum);
        }
        tell(seen, "foe kinds", () -> land.addFoeKind(1, 1, 0, 0, 0, false));
        tell(seen, "tower kinds", () -> land.addTowerKind(1, 1, 1, 0, 1));
        tell(seen, "waves", () -> land.addWave(0, 1, 1, 0));
    }
}
