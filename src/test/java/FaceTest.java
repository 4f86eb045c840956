import java.lang.reflect.Constructor;
import java.lang.reflect.Field;
import java.lang.reflect.Method;
import java.lang.reflect.Modifier;
import java.nio.file.Files;
import java.nio.file.Path;
import java.util.ArrayList;
import java.util.List;
import java.util.Set;
import java.util.TreeSet;
import java.util.regex.Matcher;
import java.util.regex.Pattern;

/** The face of the document, and those rules of LANGUAGE.md that can be read from the class and its text. */
public final class FaceTest {
    private static final Due due = new Due();
    private static final String[] FACE = {"member(int,long)", "join(int,int)", "leave(int)", "turn(int)", "fall(int)",
        "rise(int)", "deliver(int)", "lose(int)", "twice(int)", "cut(int,int)", "heal(int,int)", "letters(int)",
        "underWay(int)", "letter(int,int)", "carries(int,int,int)", "state(int,int)", "news(int,int,int)",
        "as(int,int,int)", "round(int,int)", "next(int)", "copy(int,int,int,int)", "table(int)", "agree()",
        "apart(int)", "count(int,int)", "way(int,int)", "wayAt(int)", "forge(int,int)", "check(int,int,int,int)",
        "replay()", "image()", "back()", "trace(int)", "again()", "status(int)"};
    private static final String[] CONSTANTS = {"NONE", "MISSING", "BEYOND", "BELOW", "KIND", "COPY", "NOTHING",
        "DOWN", "NO", "FULL"};
    private static final String[] RULED_OUT = {"\\bthrow\\b", "\\bthrows\\b", "\\btry\\b", "\\bcatch\\b",
        "\\bsynchronized\\b", "\\bassert\\b", "::", "\\bpackage\\b", "Exact\\b", "\\bhashCode\\b", "\\bstatic \\{",
        "\\bSystem\\.(?!arraycopy\\b)", "\\bMath\\.random\\b", "\\bimport (?!java\\.util\\.(Arrays|ArrayList|List|Iterator);)",
        "(?m)^(?!\\s*(case|default)\\b).*->"};

    private static final Path SOURCE = Path.of("src/main/java/CrowdRoll.java");
    private static final Set<Class<?>> CONSTANT_TYPES = Set.of(int.class, long.class, boolean.class, char.class,
        String.class, int[].class, long[].class, char[].class, byte[].class);

    private static void face() throws Exception {
        due.part("the face");
        Set<String> names = new TreeSet<>();
        Set<String> seen = new TreeSet<>();
        for (Method m : CrowdRoll.class.getDeclaredMethods()) {
            if (Modifier.isPublic(m.getModifiers())) {
                names.add(m.getName());
                String args = m.toString().replaceAll(".*\\(", "(");
                seen.add(m.getName() + args);
                due.holds(m + " answers an int", m.getReturnType() == int.class);
            }
        }
        due.holds("all methods and no other: " + seen, seen.equals(new TreeSet<>(Set.of(FACE))));
        for (Method m : CrowdRoll.class.getDeclaredMethods()) {
            int mods = m.getModifiers();
            due.holds(m + " is public or private", Modifier.isPublic(mods) || Modifier.isPrivate(mods));
            due.holds(m + " bears no public name", Modifier.isPublic(mods) || !names.contains(m.getName()));
        }
        for (int i = 0; i < CONSTANTS.length; i++) {
            due.is(CONSTANTS[i], CrowdRoll.class.getField(CONSTANTS[i]).getInt(null), -1 - i);
        }
        due.is("public fields", CrowdRoll.class.getFields().length, CONSTANTS.length);
        due.is("constructors", CrowdRoll.class.getDeclaredConstructors().length, 1);
        due.is("public constructors", CrowdRoll.class.getConstructors().length, 1);
        due.holds("public and final", (CrowdRoll.class.getModifiers() & (Modifier.PUBLIC | Modifier.FINAL))
                == (Modifier.PUBLIC | Modifier.FINAL));
    }

    /** As the document writes it, with the names of the parameters and in its order. */
    private static void faceAsWritten() throws Exception {
        due.part("The public face");
        List<String> written = new ArrayList<>();
        for (String line : Files.readAllLines(SOURCE)) {
            if (line.startsWith("    public ")) {
                written.add(line.trim().replaceAll("( \\{|;)$", ""));
            }
        }
        List<String> face = Doc.face();
        due.is("lines of the face", face.size(), CONSTANTS.length + 1 + FACE.length);
        due.holds("the face is " + face + ", the class has " + written, written.equals(face));
        List<String> promised = Doc.promised();
        due.holds("the promises head " + promised, promised.equals(face.subList(CONSTANTS.length, face.size())));
    }

    private static void groups() throws Exception {
        due.sentence("Ahead of the calls", "Ahead of the calls `member`, `join`, `leave`, `turn`, `fall`, `rise`, `deliver`,"
                + " `lose`, `twice`, `cut`, `heal` the interface says: ---- acts.");
        group("---- acts", 11);
        due.sentence("Ahead of the calls", "Ahead of the calls `letters`, `underWay`, `letter`, `carries` the interface says:"
                + " ---- letters.");
        group("---- letters", 4);
        due.sentence("Ahead of the calls", "Ahead of the calls `state`, `news`, `as`, `round`, `next`, `copy`, `table` the"
                + " interface says: ---- members.");
        group("---- members", 7);
        due.sentence("Ahead of the calls", "Ahead of the calls `agree`, `apart`, `count` the interface says: ---- all.");
        group("---- all", 3);
        due.sentence("Ahead of the calls", "Ahead of the calls `way`, `wayAt`, `forge`, `check` the interface says: ---- ways.");
        group("---- ways", 4);
        due.sentence("Ahead of the calls", "Ahead of the calls `replay`, `image`, `back`, `trace`, `again`, `status` the"
                + " interface says: ---- acts again.");
        group("---- acts again", 6);
    }

    private static void group(String title, int size) throws Exception {
        List<String> want = Doc.groups().getOrDefault(title, List.of());
        List<String> have = new ArrayList<>();
        String now = "";
        for (String line : Files.readAllLines(SOURCE)) {
            if (line.startsWith("    // ---- ")) {
                now = line.substring("    // ".length());
            } else if (now.equals(title) && line.startsWith("    public ")) {
                have.add(line.replaceAll("\\(.*", "").replaceAll(".* ", ""));
            }
        }
        due.is("calls of " + title, want.size(), size);
        due.holds(title + " has " + have, have.equals(want));
    }

    private static void classes() {
        due.part("rules 1, 2, 5, 11");
        Class<?>[] inside = CrowdRoll.class.getDeclaredClasses();
        due.holds("twelve classes at most", inside.length < 12);
        fieldsOf(CrowdRoll.class);
        for (Class<?> c : inside) {
            due.holds(c + " is static", Modifier.isStatic(c.getModifiers()));
            due.holds(c + " is not public", !Modifier.isPublic(c.getModifiers()) && !Modifier.isProtected(c.getModifiers()));
            fieldsOf(c);
            for (Method m : c.getDeclaredMethods()) {
                due.holds(m + " takes seven at most", m.getParameterCount() <= 7);
            }
            for (Constructor<?> k : c.getDeclaredConstructors()) {
                due.holds(k + " takes seven at most", k.getParameterCount() <= 7);
            }
        }
    }

    private static void fieldsOf(Class<?> c) {
        int own = 0;
        for (Field f : c.getDeclaredFields()) {
            int mods = f.getModifiers();
            if (Modifier.isStatic(mods)) {
                due.holds(f + " is final", Modifier.isFinal(mods));
                due.holds(f + " is of a type for constants", c.isEnum() || CONSTANT_TYPES.contains(f.getType()));
            } else {
                own++;
            }
            due.holds(f + " is not seen outside", c != CrowdRoll.class || Modifier.isPrivate(mods)
                    || Modifier.isPublic(mods) && Modifier.isStatic(mods));
        }
        due.holds(c + " has twenty fields at most", own <= 20);
    }

    private static void text() throws Exception {
        due.part("rules 4, 6, 11, 13");
        String source = Files.readString(SOURCE);
        String code = source.replaceAll("(?s)/\\*.*?\\*/", "").replaceAll("//[^\n]*", "");
        for (String word : RULED_OUT) {
            Matcher found = Pattern.compile(word).matcher(code);
            due.holds("without " + word, !found.find());
        }
        methodsAreShort(source);
    }

    /** A method ends at the brace that stands as far in as its first line. */
    private static void methodsAreShort(String source) {
        String start = "";
        int at = 0;
        String[] lines = source.split("\n");
        for (int i = 0; i < lines.length; i++) {
            String line = lines[i];
            String margin = line.replaceAll("\\S.*", "");
            if (line.matches("\\s+[^=;]*\\) \\{") && !line.matches("\\s+(if|for|while|switch|\\}).*")) {
                start = margin;
                at = i;
            } else if (line.equals(start + "}")) {
                due.holds("the method at line " + (at + 1) + " has sixty lines at most", i - at < 60);
            }
        }
    }

    public static void main(String[] args) throws Exception {
        face();
        faceAsWritten();
        groups();
        classes();
        text();
        due.finish();
    }
}
