import java.io.ByteArrayOutputStream;
import java.io.IOException;
import java.io.PrintStream;
import java.lang.reflect.InvocationTargetException;
import java.net.URL;
import java.net.URLClassLoader;
import java.nio.charset.StandardCharsets;
import java.nio.file.DirectoryStream;
import java.nio.file.Files;
import java.nio.file.Path;
import java.util.ArrayList;
import java.util.List;
import java.util.regex.Matcher;
import java.util.regex.Pattern;
import javax.tools.JavaCompiler;
import javax.tools.ToolProvider;

/** README.md: its example answers as it states, and it tells of each call, kind and test. */
public final class ReadmeTest {
    private static final Path README = Path.of("README.md");
    private static final Path TESTS = Path.of("src/test/java");

    public static void main(String[] args) throws IOException, ReflectiveOperationException {
        String readme = Files.readString(README).replace("\r\n", "\n");
        exampleAnswersAsStated(readme);
        tellsOfEveryCall(readme);
        tellsOfEveryKind(readme);
        namesEveryTest(readme);
        Check.end();
    }

    private static void exampleAnswersAsStated(String readme)
            throws IOException, ReflectiveOperationException {
        List<String> programs = blocks(readme, "java");
        List<String> outputs = blocks(readme, "text");
        Check.same("programs in README.md", programs.size(), 1);
        Check.same("outputs in README.md", outputs.size(), 1);
        if (programs.size() != 1 || outputs.size() != 1) {
            return;
        }
        String[] got = outputOf(programs.get(0)).split("\n");
        String[] due = outputs.get(0).split("\n");
        Check.same("lines that the example prints", got.length, due.length);
        for (int i = 0; i < got.length && i < due.length; i++) {
            Check.same("the example's line " + (i + 1), got[i], due[i]);
        }
    }

    private static List<String> blocks(String readme, String language) {
        List<String> blocks = new ArrayList<>();
        Matcher block = Pattern.compile("(?ms)^```" + language + "\n(.*?)^```$").matcher(readme);
        while (block.find()) {
            blocks.add(block.group(1));
        }
        return blocks;
    }

    private static String outputOf(String program)
            throws IOException, ReflectiveOperationException {
        Matcher named = Pattern.compile("public final class (\\w+)").matcher(program);
        if (!named.find()) {
            return "the example has no public final class";
        }
        Path directory = Files.createTempDirectory("readme");
        try {
            Path source = directory.resolve(named.group(1) + ".java");
            Files.writeString(source, program);
            return compiles(source, directory) ? printed(directory, named.group(1))
                    : "the example does not compile";
        } finally {
            remove(directory);
        }
    }

    private static boolean compiles(Path source, Path directory) {
        JavaCompiler compiler = ToolProvider.getSystemJavaCompiler();
        return compiler != null && compiler.run(null, null, null, "-encoding", "UTF-8",
                "-Xlint:all", "-Werror", "-cp", System.getProperty("java.class.path"),
                "-d", directory.toString(), source.toString()) == 0;
    }

    private static String printed(Path directory, String name)
            throws IOException, ReflectiveOperationException {
        ByteArrayOutputStream bytes = new ByteArrayOutputStream();
        PrintStream before = System.out;
        URL[] places = {directory.toUri().toURL()};
        try (URLClassLoader loader = new URLClassLoader(places);
                PrintStream out = new PrintStream(bytes, true, StandardCharsets.UTF_8)) {
            System.setOut(out);
            loader.loadClass(name).getMethod("main", String[].class)
                    .invoke(null, (Object) new String[0]);
        } catch (InvocationTargetException e) {
            return "the example throws " + e.getCause();
        } finally {
            System.setOut(before);
        }
        return bytes.toString(StandardCharsets.UTF_8).replace("\r\n", "\n");
    }

    private static void remove(Path directory) throws IOException {
        try (DirectoryStream<Path> files = Files.newDirectoryStream(directory)) {
            for (Path file : files) {
                Files.delete(file);
            }
        }
        Files.delete(directory);
    }

    /** A row is | `name(parameters)` | what it does | the exceptions, in their order |. */
    private static void tellsOfEveryCall(String readme) {
        List<String> told = new ArrayList<>();
        Matcher row = Pattern.compile("(?m)^\\| `(\\w+\\(.*?\\))` \\|[^|]+\\|([^|]*)\\|$")
                .matcher(readme);
        while (row.find()) {
            told.add(row.group(1) + " throws " + row.group(2).trim());
        }
        List<String> face = Document.face();
        Check.same("calls in README.md", told.size(), face.size());
        for (int i = 0; i < told.size() && i < face.size(); i++) {
            Check.same("README.md's call " + i, told.get(i), shortened(face.get(i)));
        }
        for (String one : List.of("Argument is `IllegalArgumentException`",
                "Index is `IndexOutOfBoundsException`", "State is `IllegalStateException`")) {
            Check.same("README.md says " + one, readme.contains("\n- " + one), true);
        }
    }

    private static String shortened(String declaration) {
        String thrown = declaration.contains(" throws ")
                ? declaration.substring(declaration.indexOf(" throws ") + 8) : "nothing";
        String call = declaration.substring(0, declaration.indexOf(')') + 1)
                .replaceAll(".* (\\w+\\()", "$1").replace("int ", "");
        return call + " throws " + thrown.replace("Exception", "").replace("Illegal", "")
                .replace("OutOfBounds", "");
    }

    private static void tellsOfEveryKind(String readme) {
        Matcher row = Pattern.compile("(?m)^\\| (\\d) \\| `([A-Z]+[xyz ]+)` \\|").matcher(readme);
        int kinds = 0;
        while (row.find()) {
            Check.same("number of " + row.group(2), Integer.parseInt(row.group(1)), kinds);
            String words = row.group(1) + " " + row.group(2) + ":";
            Check.same("the document says " + words, Document.says(words), true);
            kinds++;
        }
        Check.same("kinds in README.md", kinds, 6);
    }

    private static void namesEveryTest(String readme) throws IOException {
        try (DirectoryStream<Path> files = Files.newDirectoryStream(TESTS, "*Test.java")) {
            for (Path file : files) {
                String name = file.getFileName().toString().replace(".java", "");
                Check.same("README.md names " + name, readme.contains("`" + name + "`"), true);
            }
        }
        Matcher named = Pattern.compile("`(\\w+Test)`").matcher(readme);
        while (named.find()) {
            Check.same(named.group(1) + " stands among the tests",
                    Files.exists(TESTS.resolve(named.group(1) + ".java")), true);
        }
    }
}
