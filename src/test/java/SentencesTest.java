import java.io.IOException;
import java.nio.file.Files;
import java.nio.file.Path;
import java.util.ArrayList;
import java.util.BitSet;
import java.util.LinkedHashMap;
import java.util.List;
import java.util.Map;
import java.util.regex.Matcher;
import java.util.regex.Pattern;
import java.util.stream.Stream;

/**
 * Checks that each sentence of the document that names a boundary case has a test of its own. A script under
 * src/test/runs quotes the document in lines as "## 13: Throws IllegalStateException if there were 20" or
 * "## Terms: At most 10 wait.", with calls behind them. Each number, sign and word of a bound in the document must
 * stand in such a quotation.
 */
public final class SentencesTest {
    private static final Path DOCUMENT = Path.of("../shared/DOC.md");
    private static final Path RUNS = Path.of("src/test/runs");
    private static final Pattern QUOTATION = Pattern.compile("## (\\w[\\w ]*): (.+)");
    private static final Pattern BOUND = Pattern.compile(
            "\\d+|'.'|\\b(?:at most|at least|none|never|refused|lost|cut|late|fail|wait|waits|no|not|up to|only|lower|all|without|first)\\b");
    private static final Pattern EXCEPTION = Pattern.compile("Throws \\w+Exception (if .+)");

    private final Map<String, StringBuilder> sections = new LinkedHashMap<>();
    private final Map<String, BitSet> quoted = new LinkedHashMap<>();
    private int quotations;
    private int bounds;
    private int wrong;

    public static void main(String[] args) throws IOException {
        SentencesTest test = new SentencesTest();
        test.readDocument();
        test.readScripts();
        test.checkBounds();
        System.out.println(test.bounds + " bounds of the document stand in " + test.quotations + " quotations with tests, "
                + test.wrong + " wrong");
        if (test.wrong != 0 || test.bounds == 0) {
            System.exit(1);
        }
    }

    private void fail(String what) {
        wrong++;
        System.out.println(what);
    }

    private static String plain(String text) {
        return text.replaceAll("</?p>|`", "").replaceAll("\\s+", " ").strip();
    }

    /** Each section by its name: the number of its promise, or its title. Signatures, the face and headings are left out. */
    private void readDocument() throws IOException {
        String name = "";
        for (String line : Files.readAllLines(DOCUMENT)) {
            Matcher promise = Pattern.compile("## Promise (\\d+): .*").matcher(line);
            if (promise.matches()) {
                name = promise.group(1);
            } else if (line.startsWith("## ")) {
                name = line.substring(3);
            } else if (!line.startsWith("```") && !line.startsWith("Ahead of the calls") && !name.equals("The public face")
                    && !name.equals("Not promised")) {
                String text = line.matches("`[^`]*\\(.*`: .*") ? line.replaceFirst("`[^`]*`: ", "") : line.replaceFirst("^- ", "");
                sections.computeIfAbsent(name, key -> new StringBuilder()).append(plain(text)).append(' ');
            }
        }
        sections.replaceAll((key, text) -> new StringBuilder(plain(text.toString())));
        sections.keySet().forEach(key -> quoted.put(key, new BitSet()));
    }

    private void readScripts() throws IOException {
        List<Path> scripts = new ArrayList<>();
        try (Stream<Path> found = Files.list(RUNS)) {
            found.filter(path -> path.toString().endsWith(".txt")).sorted().forEach(scripts::add);
        }
        for (Path script : scripts) {
            int calls = 1;
            boolean quotes = true;
            for (String line : Files.readAllLines(script)) {
                Matcher quotation = QUOTATION.matcher(line);
                if (quotation.matches()) {
                    if (calls == 0 && !quotes) {
                        fail(script + ": no call ahead of " + line);
                    }
                    quote(script + ": " + line, quotation.group(1), plain(quotation.group(2)));
                    calls = 0;
                    quotes = true;
                } else if (line.contains(" = ") && !line.startsWith("#")) {
                    calls++;
                } else {
                    quotes = false;
                }
            }
            if (calls == 0) {
                fail(script + ": no call behind its last quotation");
            }
        }
    }

    private void quote(String where, String section, String text) {
        StringBuilder document = sections.get(section);
        int at = document == null ? -1 : document.indexOf(text);
        if (at < 0) {
            fail(where + ": the document does not say that");
        }
        // A sentence that stands there more than once is quoted in each place.
        while (at >= 0) {
            quotations++;
            quoted.get(section).set(at, at + text.length());
            at = document.indexOf(text, at + 1);
        }
    }

    private void checkBounds() {
        check44Promises();
        sections.forEach((section, text) -> {
            Matcher bound = BOUND.matcher(text);
            while (bound.find()) {
                bounds++;
                if (!quoted.get(section).get(bound.start())) {
                    fail(section + ": no test quotes: " + text.substring(Math.max(0, bound.start() - 50), bound.start()) + "["
                            + bound.group() + "]" + text.substring(bound.end(), Math.min(text.length(), bound.end() + 30)));
                }
            }
            Matcher thrown = EXCEPTION.matcher(text);
            while (thrown.find()) {
                checkThrown(section, text, thrown.start(1));
            }
        });
    }

    private void check44Promises() {
        for (int promise = 1; promise <= 44; promise++) {
            BitSet marks = quoted.get(String.valueOf(promise));
            if (marks == null || marks.isEmpty()) {
                fail("no test quotes promise " + promise);
            }
        }
    }

    /** What an exception is thrown for must be quoted word by word, but for what joins its parts. */
    private void checkThrown(String section, CharSequence text, int from) {
        Matcher word = Pattern.compile("\\w+").matcher(text);
        int at = from;
        while (word.find(at) && !word.group().equals("Throws") && !word.group().equals("Returns")) {
            if (!quoted.get(section).get(word.start()) && !word.group().matches("if|or|Throws|\\w+Exception")) {
                fail(section + ": no test quotes what throws: " + word.group() + " in "
                        + text.subSequence(from, Math.min(text.length(), word.end() + 30)));
                return;
            }
            at = word.end();
        }
    }
}
