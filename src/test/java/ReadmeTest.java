import java.io.IOException;
import java.net.URL;
import java.net.URLClassLoader;
import java.nio.file.DirectoryStream;
import java.nio.file.Files;
import java.nio.file.Path;
import java.util.ArrayList;
import java.util.List;
import java.util.function.Supplier;
import java.util.regex.Matcher;
import java.util.regex.Pattern;
import javax.tools.ToolProvider;

/** README.md as it stands: its example answers what it says, and it names every call and test. */
public final class ReadmeTest {
    private static final Checks CHECKS = new Checks("ReadmeTest");
    private static final Path README = Path.of("README.md");
    private static final Path TESTS = Path.of("src/test/java");
    /** A call, kept in a variable or not, and its answer at the head of a comment. */
    private static final Pattern TOLD =
        Pattern.compile("(?<variable>int \\w+ = )?(?<call>watch\\..*\\)); +// (?<answer>-?\\d+|true|false): .*");

    public static void main(String[] args) throws IOException, ReflectiveOperationException {
        String page = Files.readString(README);
        names(page);
        example(page);
        CHECKS.finish();
    }

    private static void names(String page) throws IOException {
        for (String call : Calls.NAMES) {
            CHECKS.due("names the call " + call, true, page.contains("`" + call + "`"));
        }
        try (DirectoryStream<Path> tests = Files.newDirectoryStream(TESTS, "*Test.java")) {
            for (Path test : tests) {
                String name = test.getFileName().toString().replace(".java", "");
                CHECKS.due("names the test " + name, true, page.contains("`" + name + "`"));
            }
        }
    }

    private static void example(String page) throws IOException, ReflectiveOperationException {
        Matcher block = Pattern.compile("(?s)```java\n(.*?)```").matcher(page);
        CHECKS.due("has an example", true, block.find());
        List<String> told = new ArrayList<>();
        StringBuilder body = new StringBuilder();
        for (String line : block.group(1).split("\n")) {
            Matcher m = TOLD.matcher(line);
            if (m.matches()) {
                told.add(m.group("answer"));
            }
            body.append(m.matches() ? asking(m) : line).append('\n');
        }
        CHECKS.due("the example tells answers", true, told.size() > 10);
        CHECKS.same("the example's answers", told.toString(), run(body.toString()));
    }

    private static String asking(Matcher m) {
        String variable = m.group("variable");
        if (variable == null) {
            return "answers.add(" + m.group("call") + ");";
        }
        return variable + m.group("call") + "; answers.add(" + variable.split(" ")[1] + ");";
    }

    /** The example is made a class of its own; what it hands out are Java's own types alone. */
    private static String run(String body) throws IOException, ReflectiveOperationException {
        Path folder = Files.createTempDirectory("readme");
        Path source = folder.resolve("Example.java");
        Files.writeString(source, "public final class Example implements java.util.function.Supplier<String> {\n"
            + "public String get() {\njava.util.List<Object> answers = new java.util.ArrayList<>();\n"
            + body + "return answers.toString();\n}\n}\n");
        int code = ToolProvider.getSystemJavaCompiler().run(null, null, null,
            "-cp", System.getProperty("java.class.path"), "-d", folder.toString(), source.toString());
        String answers = code == 0 ? load(folder) : "the example does not compile";
        Files.deleteIfExists(folder.resolve("Example.class"));
        Files.deleteIfExists(source);
        Files.deleteIfExists(folder);
        return answers;
    }

    private static String load(Path folder) throws IOException, ReflectiveOperationException {
        try (URLClassLoader loader = new URLClassLoader(new URL[] {folder.toUri().toURL()})) {
            Object example = loader.loadClass("Example").getConstructor().newInstance();
            return example instanceof Supplier<?> supplier ? String.valueOf(supplier.get()) : "no example";
        }
    }
}
