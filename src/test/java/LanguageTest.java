import java.io.IOException;
import java.lang.management.ManagementFactory;
import java.lang.reflect.Constructor;
import java.lang.reflect.Field;
import java.lang.reflect.Method;
import java.lang.reflect.Modifier;
import java.nio.file.Files;
import java.nio.file.Path;
import java.util.Arrays;
import java.util.List;
import java.util.Set;
import java.util.TreeSet;
import java.util.regex.Matcher;
import java.util.regex.Pattern;

/** Rules of LANGUAGE.md that can be seen in the source, in the compiled class or in a run's room. */
public final class LanguageTest {
    private static final Checks CHECKS = new Checks("LanguageTest");
    private static final Path SOURCE = Path.of("src/main/java/SmokeWatch.java");
    private static final Path DOCUMENT = Path.of("../shared/DOC.md");
    private static final List<String> RULED_OUT = List.of(
        "\\bthrow\\b", "\\bthrows\\b", "\\btry\\b", "\\bcatch\\b", "\\bsynchronized\\b", "\\bassert\\b",
        "\\bpackage\\b", "->", "::", "\\bFloat\\.", "\\bDouble\\.", "Exact\\b", "\\bSystem\\.(?!arraycopy\\()",
        "\\bhashCode\\b", "\\btoString\\b", "\\bObject\\b", "\\bstatic\\s*\\{", "\\bnew\\s+\\w+\\s*\\([^)]*\\)\\s*\\{",
        "\\b(Integer|Long|Math)\\.[A-Z]", "\\bimport\\s+(?!java\\.util\\.Arrays;)", "\\bprotected\\b", "\\bvar\\b");
    private static final Set<String> FACE = new TreeSet<>(List.of(
        "row", "square", "tower", "see", "hidden", "sight", "report", "remark", "clear", "log", "squares",
        "join", "begin", "apart", "office", "out", "fire", "patch", "fewest", "next", "crew", "move",
        "place", "minutes", "way", "send", "sent", "blinds", "blind", "best", "claim", "check", "undo",
        "count"));

    public static void main(String[] args) throws IOException {
        words();
        lengths();
        face();
        faceAsWritten();
        classes();
        room();
        CHECKS.finish();
    }

    private static void words() throws IOException {
        String code = Files.readString(SOURCE)
            .replaceAll("(?s)/\\*.*?\\*/", " ")
            .replaceAll("//[^\n]*", " ");
        for (String ruledOut : RULED_OUT) {
            Matcher m = Pattern.compile(ruledOut).matcher(code);
            CHECKS.due("in the source: " + ruledOut, false, m.find());
        }
    }

    /** A method begins at its indent with a bracket and ends at the same indent. */
    private static void lengths() throws IOException {
        Pattern head = Pattern.compile("( {4}| {8})[A-Za-z].*\\) \\{");
        String indent = null;
        int length = 0;
        for (String line : Files.readAllLines(SOURCE)) {
            length++;
            Matcher m = head.matcher(line);
            if (indent == null && m.matches()) {
                indent = m.group(1);
                length = 1;
            } else if (indent != null && line.equals(indent + "}")) {
                CHECKS.due("a method stays short: " + length, true, length <= 60);
                indent = null;
            }
        }
    }

    private static void face() {
        CHECKS.due("class is public and final", Modifier.PUBLIC | Modifier.FINAL, SmokeWatch.class.getModifiers());
        Set<String> open = new TreeSet<>();
        for (Method m : SmokeWatch.class.getDeclaredMethods()) {
            if (Modifier.isPublic(m.getModifiers())) {
                open.add(m.getName());
            } else {
                CHECKS.due("private " + m.getName(), true, Modifier.isPrivate(m.getModifiers()));
                CHECKS.due("private with a public name " + m.getName(), false, FACE.contains(m.getName()));
            }
        }
        CHECKS.due("face " + open, true, open.equals(FACE));
        for (Field f : SmokeWatch.class.getDeclaredFields()) {
            CHECKS.due("field " + f.getName(), !f.getName().equals("NONE"), Modifier.isPrivate(f.getModifiers()));
        }
        Constructor<?>[] constructors = SmokeWatch.class.getDeclaredConstructors();
        CHECKS.due("constructors", 1, constructors.length);
        CHECKS.due("constructor's parameters", 0, constructors[0].getParameterCount());
    }

    /** Each line of the document's face stands in the source to the letter, and nothing else is public. */
    private static void faceAsWritten() throws IOException {
        List<String> source = Files.readAllLines(SOURCE);
        int lines = 0;
        for (String line : Files.readAllLines(DOCUMENT)) {
            if (line.matches("( {4})?public .*[;{]")) {
                lines++;
                boolean isCall = line.endsWith(");");
                String due = isCall ? line.substring(0, line.length() - 1) + " {" : line;
                CHECKS.due("as in the document: " + due, true, source.contains(due));
            }
        }
        CHECKS.due("the class, a constant, a constructor and the calls", 3 + FACE.size(), lines);
        CHECKS.due("lines with public", lines, source.stream().filter(l -> l.matches("\\s*public .*")).count());
    }

    private static void classes() {
        Class<?>[] inside = SmokeWatch.class.getDeclaredClasses();
        CHECKS.due("at most twelve classes", true, inside.length + 1 <= 12);
        for (Class<?> c : inside) {
            CHECKS.due(c.getName() + " is static", true, Modifier.isStatic(c.getModifiers()));
            long fields = Arrays.stream(c.getDeclaredFields()).filter(f -> !Modifier.isStatic(f.getModifiers())).count();
            CHECKS.due(c.getName() + " has few fields", true, fields <= 20);
            for (Method m : c.getDeclaredMethods()) {
                CHECKS.due(c.getName() + "." + m.getName() + " bears a public name", false, FACE.contains(m.getName()));
                CHECKS.due(m.getName() + " takes at most seven", true, m.getParameterCount() <= 7);
            }
        }
    }

    /** 512 of the dearest calls make little: a long is 8 bytes, so this is far below the room. */
    private static void room() {
        var threads = (com.sun.management.ThreadMXBean) ManagementFactory.getThreadMXBean();
        long id = Thread.currentThread().getId();
        dearRun();
        long ahead = threads.getThreadAllocatedBytes(id);
        dearRun();
        long bytes = threads.getThreadAllocatedBytes(id) - ahead;
        CHECKS.due("room of a run: " + bytes, true, bytes < 1_000_000);
    }

    private static void dearRun() {
        SmokeWatch x = new SmokeWatch();
        for (int r = 0; r < 16; r++) {
            x.row(r, 16, 0, 1);
        }
        for (int t = 0; t < 8; t++) {
            x.tower(t, t, 5);
        }
        for (int k = 0; k < 8; k++) {
            x.crew(k, 15 - k);
        }
        for (int i = 0; i < 60; i++) {
            x.sight(3, i % 8, i / 8, 1, 1, 400, 0, 0);
        }
        for (int f = 0; f < 8; f++) {
            x.begin(f);
        }
        for (int i = 0; i < 40; i++) {
            x.office();
            x.send();
            x.fewest(0, 0);
            x.next(i % 8);
            x.best();
            x.way(0, 15, 15, 10);
            x.check();
            x.undo();
            x.clear(59);
            x.sight(3, 0, 99, 1, 1, 400, 0, 0);
        }
    }
}
