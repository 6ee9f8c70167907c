import java.io.ByteArrayOutputStream;
import java.io.IOException;
import java.io.PrintStream;
import java.lang.reflect.Method;
import java.lang.reflect.Modifier;
import java.net.URL;
import java.net.URLClassLoader;
import java.nio.charset.StandardCharsets;
import java.nio.file.Files;
import java.nio.file.Path;
import java.util.ArrayList;
import java.util.Arrays;
import java.util.Collections;
import java.util.List;
import java.util.regex.Matcher;
import java.util.regex.Pattern;
import java.util.stream.Collectors;
import java.util.stream.Stream;
import javax.tools.ToolProvider;

/** README.md: its example prints what it says, and each call is told of once. */
public final class ReadmeTest {
    private static final Check check = new Check();
    private static final Path PAGE = Path.of("README.md");

    public static void main(String[] args) throws IOException, ReflectiveOperationException {
        List<String> page = Files.readAllLines(PAGE);
        examplePrintsWhatItSays(page);
        eachCallIsToldOfOnce(page);
        eachTestIsToldOf(page);
        check.finish("ReadmeTest");
    }

    private static void examplePrintsWhatItSays(List<String> page) throws IOException, ReflectiveOperationException {
        List<String> example = between(page, "```java", "```");
        List<String> due = example.stream().filter(line -> line.contains("// prints: "))
                .map(line -> line.substring(line.indexOf("// prints: ") + 11)).collect(Collectors.toList());
        check.due("the example prints", true, !due.isEmpty());
        check.due("the example", due, printed(example));
    }

    private static List<String> printed(List<String> example) throws IOException, ReflectiveOperationException {
        Path folder = Files.createTempDirectory("readme");
        try {
            Path file = Files.write(folder.resolve("Example.java"), example);
            int compiled = ToolProvider.getSystemJavaCompiler().run(null, null, null, "--release", "17",
                    "-cp", System.getProperty("java.class.path"), "-d", folder.toString(), file.toString());
            return compiled == 0 ? runIn(folder) : List.of("it does not compile");
        } finally {
            drop(folder);
        }
    }

    private static List<String> runIn(Path folder) throws IOException, ReflectiveOperationException {
        PrintStream before = System.out;
        ByteArrayOutputStream said = new ByteArrayOutputStream();
        try (URLClassLoader loader = new URLClassLoader(new URL[] {folder.toUri().toURL()});
                PrintStream caught = new PrintStream(said, true, StandardCharsets.UTF_8)) {
            System.setOut(caught);
            loader.loadClass("Example").getMethod("main", String[].class).invoke(null, (Object) new String[0]);
        } finally {
            System.setOut(before);
        }
        return said.toString(StandardCharsets.UTF_8).lines().collect(Collectors.toList());
    }

    private static void drop(Path folder) throws IOException {
        try (Stream<Path> files = Files.list(folder)) {
            for (Path file : files.collect(Collectors.toList())) {
                Files.delete(file);
            }
        }
        Files.delete(folder);
    }

    private static void eachCallIsToldOfOnce(List<String> page) {
        List<String> due = Arrays.stream(Orderbench.class.getDeclaredMethods())
                .filter(method -> Modifier.isPublic(method.getModifiers())).map(Method::getName)
                .collect(Collectors.toCollection(ArrayList::new));
        List<String> got = namesIn(between(page, "| calls | what for |", ""));
        Collections.sort(due);
        Collections.sort(got);
        check.due("calls", due, got);
    }

    private static void eachTestIsToldOf(List<String> page) throws IOException {
        List<String> due;
        try (Stream<Path> files = Files.list(Path.of("src/test/java"))) {
            due = files.map(file -> file.getFileName().toString()).filter(name -> name.endsWith("Test.java"))
                    .map(name -> name.substring(0, name.length() - 5)).sorted().collect(Collectors.toList());
        }
        List<String> got = namesIn(between(page, "| test | what it tests |", ""));
        Collections.sort(got);
        check.due("tests", due, got);
    }

    /** The names between ` and ` in the first column of a table. */
    private static List<String> namesIn(List<String> table) {
        List<String> names = new ArrayList<>();
        for (String row : table) {
            Matcher name = Pattern.compile("`([A-Za-z]+)`").matcher(row.split("\\|")[1]);
            while (name.find()) {
                names.add(name.group(1));
            }
        }
        return names;
    }

    /** Up to the first line that is last, or the page's end. */
    private static List<String> between(List<String> page, String first, String last) {
        List<String> from = page.subList(page.indexOf(first) + 1, page.size());
        int end = from.indexOf(last);
        return end < 0 ? from : from.subList(0, end);
    }
}
