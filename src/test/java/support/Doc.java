import java.io.IOException;
import java.nio.file.Files;
import java.nio.file.Path;
import java.util.Map;
import java.util.TreeMap;

/** The document, cut at its headings and at the marks "==== 1" to "==== 4"; blanks and line ends are one blank. */
final class Doc {
    static final int PROMISES = 36;
    private static final Path PLACE = Path.of("../shared/DOC.md");

    private Doc() {
    }

    static Map<String, String> sections() throws IOException {
        String doc = Files.readString(PLACE);
        Map<String, String> sections = new TreeMap<>();
        String what = between(doc, "## What it is", "## The public face");
        String terms = between(doc, "## Terms", "The constants:").replace("```text", "").replace("```", "");
        int mark = what.indexOf("==== 1 ");
        int end = what.indexOf("\n", mark);
        sections.put("What it is", plain(what.substring(0, mark) + what.substring(end)));
        sections.put("==== 1", plain(what.substring(mark + 7, end) + terms.substring(0, terms.indexOf("==== 2 "))));
        sections.put("==== 2", plain(between(terms, "==== 2 ", "==== 3 ")));
        sections.put("==== 3", plain(between(terms, "==== 3 ", "==== 4 ")));
        sections.put("==== 4", plain(terms.substring(terms.indexOf("==== 4 ") + 7)));
        sections.put("The constants", plain(between(doc, "The constants:", "Ahead of the calls")));
        for (int n = 1; n <= PROMISES; n++) {
            String text = between(doc, "## Promise " + n + ":", "## ");
            sections.put("Promise " + n, plain(text.substring(text.indexOf("`: ") + 3)));
        }
        return sections;
    }

    static String plain(String text) {
        return text.replaceAll("\\s+", " ").trim();
    }

    private static String between(String text, String start, String end) {
        int from = text.indexOf(start) + start.length();
        return text.substring(from, text.indexOf(end, from));
    }
}
