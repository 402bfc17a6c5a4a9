import java.io.ByteArrayOutputStream;
import java.io.File;
import java.io.IOException;
import java.net.URL;
import java.net.URLClassLoader;
import java.nio.file.Files;
import java.nio.file.Path;
import java.util.ArrayList;
import java.util.Comparator;
import java.util.List;
import java.util.Set;
import java.util.TreeSet;
import java.util.regex.Matcher;
import java.util.regex.Pattern;
import java.util.stream.Stream;
import javax.tools.JavaCompiler;
import javax.tools.ToolProvider;

/**
 * What README.md says: each call with what it takes, answers and throws; the example, line by
 * line; and the names of the tests. It is run from the project's own directory.
 */
public final class ReadmeTest {
    private static final Path README = Path.of("README.md");
    private static final Path TESTS = Path.of("src", "test", "java");
    private static final Pattern CALL = Pattern.compile("- `(\\w+ \\w+)\\(([^`]*)\\)` (.*)");
    private static final Pattern THROWN = Pattern.compile("`(\\w+Exception)`");
    private static final Pattern BLOCK = Pattern.compile("(?s)```java\n(.*?)```");
    private static final Pattern LINE =
            Pattern.compile("(?:(\\w+ \\w+) = )?(\\S.*);(?: +// (throws )?(-?\\w+)(?::.*)?)?");

    private ReadmeTest() {
    }

    public static void main(String[] args) throws Exception {
        String page = Files.readString(README);
        calls(page);
        example(page);
        tests(page);
        Expect.finish("ReadmeTest");
    }

    private static void calls(String page) {
        Set<String> found = new TreeSet<>();
        for (String line : page.replaceAll("\n  (?=\\S)", " ").split("\n")) {
            Matcher call = CALL.matcher(line);
            if (call.matches()) {
                found.add(written(call.group(1), call.group(2), call.group(3)));
            }
        }
        Expect.same("the calls of README.md", found.toString(), Face.methods().toString());
    }

    private static String written(String head, String parameters, String text) {
        StringBuilder line = new StringBuilder();
        line.append(head).append('(');
        line.append(parameters.replaceAll(" \\w+(, )?", "$1").replace(", ", ",")).append(')');
        Matcher thrown = THROWN.matcher(text);
        while (thrown.find()) {
            line.append(' ').append(thrown.group(1));
        }
        return line.toString();
    }

    private static void example(String page) throws Exception {
        Matcher block = BLOCK.matcher(page);
        Expect.same("an example stands in README.md", block.find(), true);
        String example = block.group(1);
        for (String name : Face.names()) {
            Expect.same("the example calls " + name, example.contains("." + name + "("), true);
        }
        StringBuilder body = new StringBuilder();
        for (String line : example.split("\n")) {
            body.append(line.isBlank() ? "" : looked(line));
        }
        run("public final class ReadmeExample {\n    public static void run() {\n" + body
                + "    }\n}\n");
    }

    /** A line of the example, followed by a look at the answer that stands behind it. */
    private static String looked(String line) {
        Matcher parts = LINE.matcher(line);
        if (!parts.matches()) {
            Expect.wrong("not understood in the example: " + line);
            return "";
        }
        String kept = parts.group(1);
        String call = parts.group(2);
        String due = parts.group(4);
        String what = "\"" + call.replace("\"", "'") + "\"";
        if (due == null) {
            return (kept == null ? "" : kept + " = ") + call + ";\n";
        }
        if (parts.group(3) != null) {
            return "Expect.same(" + what + ", Expect.thrownBy(() -> " + call + "), \"" + due
                    + "\");\n";
        }
        String answer = kept == null ? call : kept.substring(kept.indexOf(' ') + 1);
        String first = kept == null ? "" : kept + " = " + call + ";\n";
        return first + "Expect.same(" + what + ", String.valueOf(" + answer + "), \"" + due
                + "\");\n";
    }

    private static void run(String source) throws Exception {
        Path built = Files.createTempDirectory("readme");
        try {
            Path file = Files.writeString(built.resolve("ReadmeExample.java"), source);
            int before = Expect.looked();
            if (isCompiled(file, built)) {
                runIn(built);
            }
            Expect.same("the example was looked at", Expect.looked() > before, true);
        } finally {
            remove(built);
        }
    }

    private static boolean isCompiled(Path file, Path built) {
        JavaCompiler compiler = ToolProvider.getSystemJavaCompiler();
        ByteArrayOutputStream said = new ByteArrayOutputStream();
        boolean isDone = compiler != null && compiler.run(null, said, said, "-d", built.toString(),
                "-cp", System.getProperty("java.class.path"), file.toString()) == 0;
        if (!isDone) {
            Expect.wrong("the example does not compile: " + said);
        }
        return isDone;
    }

    private static void runIn(Path built) throws Exception {
        URL[] places = {built.toUri().toURL()};
        try (URLClassLoader loader = new URLClassLoader(places, Expect.class.getClassLoader())) {
            loader.loadClass("ReadmeExample").getMethod("run").invoke(null);
        }
    }

    private static void remove(Path built) throws IOException {
        List<Path> files = new ArrayList<>();
        try (Stream<Path> walked = Files.walk(built)) {
            walked.sorted(Comparator.reverseOrder()).forEach(files::add);
        }
        for (Path file : files) {
            Files.delete(file);
        }
    }

    private static void tests(String page) {
        File[] files = TESTS.toFile().listFiles();
        Expect.same("tests were found", files != null, true);
        for (File file : files == null ? new File[0] : files) {
            String name = file.getName().replace(".java", "");
            if (name.endsWith("Test")) {
                Expect.same("README.md names " + name, page.contains("`" + name + "`"), true);
            }
        }
    }
}
