import java.io.IOException;
import java.nio.file.Files;
import java.nio.file.Path;
import java.util.ArrayList;
import java.util.LinkedHashMap;
import java.util.List;
import java.util.Map;
import java.util.TreeMap;
import java.util.regex.Matcher;
import java.util.regex.Pattern;

/** The document, cut at its headings and at the marks "==== 1" to "==== 4"; blanks and line ends are one blank. */
final class Doc {
    static final int PROMISES = 36;
    private static final Path PLACE = Path.of("../shared/DOC.md");

    private Doc() {
    }

    static Map<String, String> sections() throws IOException {
        String doc = Files.readString(PLACE);
        Map<String, String> sections = new TreeMap<>();
        String what = between(doc, "## What it is", "## The public face");
        String terms = between(doc, "## Terms", "The constants:").replace("```text", "").replace("```", "");
        int mark = what.indexOf("==== 1 ");
        int end = what.indexOf("\n", mark);
        sections.put("What it is", plain(what.substring(0, mark) + what.substring(end)));
        sections.put("==== 1", plain(what.substring(mark + 7, end) + terms.substring(0, terms.indexOf("==== 2 "))));
        sections.put("==== 2", plain(between(terms, "==== 2 ", "==== 3 ")));
        sections.put("==== 3", plain(between(terms, "==== 3 ", "==== 4 ")));
        sections.put("==== 4", plain(terms.substring(terms.indexOf("==== 4 ") + 7)));
        sections.put("The constants", plain(between(doc, "The constants:", "Ahead of the calls")));
        sections.put("Ahead of the calls", plain(doc.substring(doc.indexOf("Ahead of the calls"), doc.indexOf("## Promise 1:"))));
        for (int n = 1; n <= PROMISES; n++) {
            String text = between(doc, "## Promise " + n + ":", "## ");
            sections.put("Promise " + n, plain(text.substring(text.indexOf("`: ") + 3)));
        }
        return sections;
    }

    /** What is declared in the public face, line by line: constants, the constructor, methods. */
    static List<String> face() throws IOException {
        List<String> lines = new ArrayList<>();
        String face = between(between(Files.readString(PLACE), "## The public face", "## Terms"), "{", "```");
        for (String line : face.split("\n")) {
            if (line.endsWith(";")) {
                lines.add(line.trim().replace(";", ""));
            }
        }
        return lines;
    }

    /** The methods as the promises head them, by their numbers. */
    static List<String> promised() throws IOException {
        List<String> methods = new ArrayList<>();
        String doc = Files.readString(PLACE);
        for (int n = 1; n <= PROMISES; n++) {
            methods.add("public " + between(between(doc, "## Promise " + n + ":", "## "), "\n`", "`: "));
        }
        return methods;
    }

    /** The calls that stand behind each line of the interface, "---- acts" and its like. */
    static Map<String, List<String>> groups() throws IOException {
        Map<String, List<String>> groups = new LinkedHashMap<>();
        Matcher group = Pattern.compile("Ahead of the calls (.*) the interface says: (---- .*)\\.")
                .matcher(Files.readString(PLACE));
        while (group.find()) {
            groups.put(group.group(2), List.of(group.group(1).replace("`", "").split(", ")));
        }
        return groups;
    }

    static String plain(String text) {
        return text.replaceAll("\\s+", " ").trim();
    }

    private static String between(String text, String start, String end) {
        int from = text.indexOf(start) + start.length();
        return text.substring(from, text.indexOf(end, from));
    }
}
