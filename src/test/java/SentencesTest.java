import java.io.IOException;
import java.nio.file.Files;
import java.nio.file.Path;
import java.util.ArrayList;
import java.util.BitSet;
import java.util.LinkedHashMap;
import java.util.List;
import java.util.Map;
import java.util.regex.Matcher;
import java.util.regex.Pattern;
import java.util.stream.Stream;

/**
 * Checks that each sentence of the document has a test. A script under src/test/runs quotes the document in lines as
 * "## 13: Throws IllegalStateException if there were 20" or "## Terms: At most 10 wait.", with calls behind them. Each
 * word of the document must stand in such a quotation, but for headings and what joins the parts of a "Throws".
 */
public final class SentencesTest {
    private static final Path DOCUMENT = Path.of("../shared/DOC.md");
    private static final Path RUNS = Path.of("src/test/runs");
    private static final Pattern QUOTATION = Pattern.compile("## (\\w[\\w ]*): (.+)");
    private static final Pattern PROMISE = Pattern.compile("## Promise (\\d+): .*");
    private static final Pattern WORD = Pattern.compile("\\w+|'.'");
    private static final Pattern JOINS = Pattern.compile("Throws|\\w+Exception|if|or");
    private static final int PROMISES = 44;

    private final Map<String, StringBuilder> sections = new LinkedHashMap<>();
    private final Map<String, BitSet> quoted = new LinkedHashMap<>();
    private int quotations;
    private int words;
    private int wrong;

    public static void main(String[] args) throws IOException {
        SentencesTest test = new SentencesTest();
        test.readDocument();
        test.readScripts();
        test.checkWords();
        System.out.println(test.words + " words of the document stand in " + test.quotations + " quotations with tests, "
                + test.wrong + " wrong");
        if (test.wrong != 0 || test.words == 0) {
            System.exit(1);
        }
    }

    private void fail(String what) {
        wrong++;
        System.out.println(what);
    }

    private static String plain(String text) {
        return text.replaceAll("</?p>|`", "").replaceAll("\\s+", " ").strip();
    }

    /** Each section by its name: the number of its promise, or its title. */
    private void readDocument() throws IOException {
        String name = "";
        for (String line : Files.readAllLines(DOCUMENT)) {
            Matcher promise = PROMISE.matcher(line);
            if (promise.matches()) {
                name = promise.group(1);
            } else if (line.startsWith("## ")) {
                name = line.substring(3);
            } else if (tells(name, line)) {
                sections.computeIfAbsent(name, key -> new StringBuilder()).append(plain(withoutHeading(line))).append(' ');
            }
        }
        sections.replaceAll((key, text) -> new StringBuilder(plain(text.toString())));
        sections.keySet().forEach(key -> quoted.put(key, new BitSet()));
    }

    /** The face has a test of its own; what is not promised has none. */
    private static boolean tells(String section, String line) {
        return !section.isEmpty() && !section.equals("The public face") && !section.equals("Not promised")
                && !line.startsWith("```") && !line.startsWith("Ahead of the calls");
    }

    /** Without the signature of a promise, the sign of a list, or the word that a paragraph of the terms is about. */
    private static String withoutHeading(String line) {
        if (line.matches("`[^`]*\\(.*`: .*")) {
            return line.replaceFirst("`[^`]*`: ", "");
        }
        return line.replaceFirst("^- ", "").replaceFirst("^<p>[A-Z][a-z ]*\\. ", "");
    }

    private void readScripts() throws IOException {
        List<Path> scripts = new ArrayList<>();
        try (Stream<Path> found = Files.list(RUNS)) {
            found.filter(path -> path.toString().endsWith(".txt")).sorted().forEach(scripts::add);
        }
        for (Path script : scripts) {
            readScript(script);
        }
    }

    /** Quotations that follow each other share the calls behind the last one. */
    private void readScript(Path script) throws IOException {
        int calls = 1;
        boolean quotes = true;
        for (String line : Files.readAllLines(script)) {
            Matcher quotation = QUOTATION.matcher(line);
            if (quotation.matches()) {
                if (calls == 0 && !quotes) {
                    fail(script + ": no call ahead of " + line);
                }
                quote(script + ": " + line, quotation.group(1), plain(quotation.group(2)));
                calls = 0;
                quotes = true;
            } else if (line.contains(" = ") && !line.startsWith("#")) {
                calls++;
            } else {
                quotes = false;
            }
        }
        if (calls == 0) {
            fail(script + ": no call behind its last quotation");
        }
    }

    private void quote(String where, String section, String text) {
        StringBuilder document = sections.get(section);
        int at = document == null ? -1 : document.indexOf(text);
        if (at < 0) {
            fail(where + ": the document does not say that");
        }
        // A sentence that stands there more than once is quoted in each place.
        while (at >= 0) {
            quotations++;
            quoted.get(section).set(at, at + text.length());
            at = document.indexOf(text, at + 1);
        }
    }

    private void checkWords() {
        for (int promise = 1; promise <= PROMISES; promise++) {
            if (!sections.containsKey(String.valueOf(promise))) {
                fail("the document has no promise " + promise);
            }
        }
        sections.forEach((section, text) -> {
            boolean isPromise = section.matches("\\d+");
            Matcher word = WORD.matcher(text);
            while (word.find()) {
                words++;
                boolean joins = isPromise && JOINS.matcher(word.group()).matches();
                if (!quoted.get(section).get(word.start()) && !joins) {
                    fail(section + ": no test quotes: " + text.substring(Math.max(0, word.start() - 40), word.start()) + "["
                            + word.group() + "]" + text.substring(word.end(), Math.min(text.length(), word.end() + 30)));
                }
            }
        });
    }
}
