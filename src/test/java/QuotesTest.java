import java.io.IOException;
import java.nio.file.Files;
import java.nio.file.Path;
import java.util.ArrayList;
import java.util.BitSet;
import java.util.List;
import java.util.Map;
import java.util.TreeMap;
import java.util.regex.Matcher;
import java.util.regex.Pattern;
import java.util.stream.Stream;

/** Every sentence that a test names stands in the document, and every sentence of the document is named by a test. */
public final class QuotesTest {
    private static final Due due = new Due();
    private static final Path TESTS = Path.of("src/test/java");
    private static final String TEXT = "\"((?:[^\"\\\\]|\\\\.)*)\"";
    private static final Pattern NAMED = Pattern.compile(
            "due\\.sentence\\((PART|" + TEXT + "),\\s*(" + TEXT + "(?:\\s*\\+\\s*" + TEXT + ")*)\\);");
    private static final Pattern PART = Pattern.compile("String PART = " + TEXT);

    private record Quote(String file, String heading, String text) { }

    private static List<Quote> quotes() throws IOException {
        List<Quote> quotes = new ArrayList<>();
        List<Path> files;
        try (Stream<Path> all = Files.list(TESTS)) {
            files = all.filter(f -> f.toString().endsWith("Test.java")).sorted().toList();
        }
        for (Path file : files) {
            if (!file.endsWith("QuotesTest.java")) {
                quotesOf(file, quotes);
            }
        }
        return quotes;
    }

    private static void quotesOf(Path file, List<Quote> quotes) throws IOException {
        String source = Files.readString(file);
        Matcher part = PART.matcher(source);
        String own = part.find() ? part.group(1) : "";
        Matcher named = NAMED.matcher(source);
        int found = 0;
        while (named.find()) {
            String heading = named.group(1).equals("PART") ? own : named.group(2);
            quotes.add(new Quote(file.getFileName().toString(), heading, joined(named.group(3))));
            found++;
        }
        int calls = source.split("due\\.sentence\\(", -1).length - 1;
        due.is(file + ", sentences that could be read", found, calls);
    }

    private static String joined(String literals) {
        StringBuilder text = new StringBuilder();
        Matcher literal = Pattern.compile(TEXT).matcher(literals);
        while (literal.find()) {
            text.append(literal.group(1));
        }
        return Doc.plain(text.toString());
    }

    private static void mark(String text, Quote quote, BitSet covered) {
        int at = text.indexOf(quote.text());
        due.holds(quote + " stands in the document", at >= 0);
        while (at >= 0) {
            covered.set(at, at + quote.text().length());
            at = text.indexOf(quote.text(), at + 1);
        }
    }

    /** What no test names: words only, as signs between two sentences say nothing. */
    private static String uncovered(String text, BitSet covered) {
        StringBuilder rest = new StringBuilder();
        for (int i = 0; i < text.length(); i++) {
            rest.append(covered.get(i) ? ' ' : text.charAt(i));
        }
        return Doc.plain(rest.toString().replaceAll("[^A-Za-z0-9]", " "));
    }

    public static void main(String[] args) throws IOException {
        due.part("sentences of the document");
        Map<String, String> sections = Doc.sections();
        Map<String, BitSet> covered = new TreeMap<>();
        for (Quote quote : quotes()) {
            String text = sections.get(quote.heading());
            due.holds(quote + " has a heading", text != null);
            if (text != null) {
                mark(text, quote, covered.computeIfAbsent(quote.heading(), h -> new BitSet()));
            }
        }
        for (Map.Entry<String, String> section : sections.entrySet()) {
            String rest = uncovered(section.getValue(), covered.getOrDefault(section.getKey(), new BitSet()));
            due.holds(section.getKey() + ": no test names \"" + rest + "\"", rest.isEmpty());
        }
        due.finish();
    }
}
