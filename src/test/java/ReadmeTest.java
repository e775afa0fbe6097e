import java.io.ByteArrayOutputStream;
import java.io.IOException;
import java.io.PrintStream;
import java.net.URL;
import java.net.URLClassLoader;
import java.nio.charset.StandardCharsets;
import java.nio.file.Files;
import java.nio.file.Path;
import java.util.ArrayList;
import java.util.Comparator;
import java.util.List;
import java.util.regex.Matcher;
import java.util.regex.Pattern;
import java.util.stream.Stream;
import javax.tools.JavaCompiler;
import javax.tools.ToolProvider;

/** Compiles and runs the example of README.md, and compares what it prints with what is said behind each println. */
public final class ReadmeTest {
    private static final Path README = Path.of("README.md");
    private static final Path TESTS = Path.of("src/test/java");
    private static final Pattern EXAMPLE = Pattern.compile("(?s)```java\n(.*?)```");
    private static final Pattern PRINTED = Pattern.compile("println\\(.*\\); // (.*)");

    public static void main(String[] args) throws Exception {
        String readme = Files.readString(README);
        int wrong = wrongLines(readme) + testsNotNamed(readme);
        System.out.println("the example of README.md, " + wrong + " wrong");
        if (wrong != 0) {
            System.exit(1);
        }
    }

    private static int wrongLines(String readme) throws Exception {
        Matcher example = EXAMPLE.matcher(readme);
        if (!example.find()) {
            System.out.println("README.md has no example");
            return 1;
        }
        List<String> due = new ArrayList<>();
        Matcher printed = PRINTED.matcher(example.group(1));
        while (printed.find()) {
            due.add(printed.group(1));
        }
        List<String> got = outputOf(example.group(1));
        int wrong = due.isEmpty() || got.size() != due.size() ? 1 : 0;
        for (int i = 0; i < due.size() && i < got.size(); i++) {
            if (!got.get(i).equals(due.get(i))) {
                wrong++;
                System.out.println("line " + (i + 1) + " of the example is " + got.get(i) + ", README.md says " + due.get(i));
            }
        }
        return wrong;
    }

    private static List<String> outputOf(String example) throws Exception {
        Path place = Files.createTempDirectory("readme");
        try {
            Path source = place.resolve("Example.java");
            Files.writeString(source, example);
            JavaCompiler compiler = ToolProvider.getSystemJavaCompiler();
            int failed = compiler.run(null, null, null, "-Xlint:all", "-Werror", "-cp", System.getProperty("java.class.path"),
                    "-d", place.toString(), source.toString());
            return failed == 0 ? printedBy(place) : List.of();
        } finally {
            try (Stream<Path> left = Files.walk(place)) {
                for (Path path : left.sorted(Comparator.reverseOrder()).toList()) {
                    Files.delete(path);
                }
            }
        }
    }

    private static List<String> printedBy(Path place) throws Exception {
        PrintStream console = System.out;
        ByteArrayOutputStream kept = new ByteArrayOutputStream();
        try (URLClassLoader loader = new URLClassLoader(new URL[] {place.toUri().toURL()})) {
            System.setOut(new PrintStream(kept, true, StandardCharsets.UTF_8));
            loader.loadClass("Example").getMethod("main", String[].class).invoke(null, (Object) new String[0]);
        } finally {
            System.setOut(console);
        }
        return kept.toString(StandardCharsets.UTF_8).lines().toList();
    }

    private static int testsNotNamed(String readme) throws IOException {
        int wrong = 0;
        try (Stream<Path> tests = Files.list(TESTS)) {
            for (Path test : tests.sorted().toList()) {
                String name = test.getFileName().toString().replace(".java", "");
                if (!readme.contains("| `" + name + "` |")) {
                    wrong++;
                    System.out.println("README.md does not name " + name);
                }
            }
        }
        return wrong;
    }
}
