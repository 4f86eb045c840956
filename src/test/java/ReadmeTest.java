import java.io.IOException;
import java.nio.file.Files;
import java.nio.file.Path;
import java.util.ArrayList;
import java.util.List;
import java.util.regex.Matcher;
import java.util.regex.Pattern;
import java.util.stream.Stream;

/** README.md says what is so: its example answers as it tells, and it names every call and every test. */
public final class ReadmeTest {
    private static final Due due = new Due();
    private static final Pattern CALL = Pattern.compile("x\\.(\\w+)\\(([^)]*)\\);\\s*// (-?\\d+)\\b.*");

    private static String[] exampleOf(String readme) {
        int from = readme.indexOf("```java\n") + "```java\n".length();
        return readme.substring(from, readme.indexOf("```", from)).split("\n");
    }

    private static void example(String readme) {
        due.part("README.md, the example");
        String[] lines = exampleOf(readme);
        due.holds("\"" + lines[0] + "\" makes an object", lines[0].equals("CrowdRoll x = new CrowdRoll();"));
        Roll x = new Roll();
        for (int i = 1; i < lines.length; i++) {
            Matcher call = CALL.matcher(lines[i]);
            due.holds("\"" + lines[i] + "\" is a call with its answer", call.matches());
            if (call.matches()) {
                due.is(lines[i], answer(x, call.group(1), call.group(2)), Integer.parseInt(call.group(3)));
            }
        }
    }

    private static int answer(Roll x, String name, String list) {
        int[] numbers = new int[4];
        String[] args = list.isEmpty() ? new String[0] : list.split(", ");
        for (int i = 0; i < args.length; i++) {
            numbers[i] = Integer.parseInt(args[i].replace("L", ""));
        }
        return x.call(name, numbers[0], numbers[1], numbers[2], numbers[3], numbers[1]);
    }

    private static void names(String readme) throws IOException {
        due.part("README.md names");
        for (List<String> calls : Doc.groups().values()) {
            for (String call : calls) {
                due.holds(call, readme.contains("`" + call + "`"));
            }
        }
        List<Path> files = new ArrayList<>();
        try (Stream<Path> all = Files.list(Path.of("src/test/java"))) {
            all.filter(f -> f.toString().endsWith("Test.java")).forEach(files::add);
        }
        for (Path file : files) {
            String name = file.getFileName().toString().replace(".java", "");
            due.holds(name, readme.contains("`" + name + "`"));
        }
    }

    public static void main(String[] args) throws IOException {
        String readme = Files.readString(Path.of("README.md"));
        example(readme);
        names(readme);
        due.finish();
    }
}
