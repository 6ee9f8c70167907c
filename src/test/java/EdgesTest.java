import java.io.IOException;
import java.lang.reflect.InvocationTargetException;
import java.lang.reflect.Method;
import java.nio.file.Files;
import java.nio.file.Path;
import java.util.ArrayList;
import java.util.Comparator;
import java.util.List;

/**
 * Runs each test of a boundary, and holds against the document that the words which it names stand there, and
 * that no line of it that tells an effect, an answer or an exception is without a test.
 */
public final class EdgesTest {
    private static final Check check = new Check();
    private static final Path DOCUMENT = Path.of("../shared/DOC.md");
    private static final int PROMISES = 38;
    private static final List<Class<?>> TESTS = List.of(
            DescriptionEdges.class, BenchEdges.class, OrderEdges.class, AskedEdges.class, AllEdges.class);

    public static void main(String[] args) throws IOException, IllegalAccessException {
        List<List<String>> lines = linesOfPromises();
        List<Sentence> tested = new ArrayList<>();
        for (Class<?> each : TESTS) {
            for (Method test : testsOf(each)) {
                run(test);
                tested.add(test.getAnnotation(Sentence.class));
            }
        }
        check.at("");
        for (Sentence sentence : tested) {
            boolean stands = lines.get(sentence.promise()).stream().anyMatch(line -> line.contains(sentence.words()));
            check.due("promise " + sentence.promise() + " has the words: " + sentence.words(), true, stands);
        }
        for (int promise = 0; promise <= PROMISES; promise++) {
            eachSentenceIsTested(promise, lines.get(promise), tested);
        }
        System.out.println(tested.size() + " tests of boundaries");
        check.finish("EdgesTest");
    }

    private static List<Method> testsOf(Class<?> each) {
        List<Method> tests = new ArrayList<>();
        for (Method method : each.getDeclaredMethods()) {
            if (method.isAnnotationPresent(Sentence.class)) {
                tests.add(method);
            }
        }
        tests.sort(Comparator.comparingInt((Method test) -> test.getAnnotation(Sentence.class).promise())
                .thenComparing(Method::getName));
        return tests;
    }

    /** A test that throws is wrong, and the others are run all the same. */
    private static void run(Method test) throws IllegalAccessException {
        Sentence sentence = test.getAnnotation(Sentence.class);
        check.at("promise " + sentence.promise() + ", " + test.getName() + " (" + sentence.words() + "): ");
        int before = check.made();
        Object ended = "it ended";
        try {
            test.invoke(null, check);
        } catch (InvocationTargetException e) {
            ended = e.getCause();
        }
        check.due("the test", "it ended", ended);
        check.due("has checks", true, check.made() > before + 1);
    }

    /** The lines of each promise; as promise 0 those of all that stands ahead of promise 1. */
    private static List<List<String>> linesOfPromises() throws IOException {
        List<List<String>> promises = new ArrayList<>();
        promises.add(new ArrayList<>());
        for (String line : Files.readAllLines(DOCUMENT)) {
            if (line.startsWith("## Promise ")) {
                promises.add(new ArrayList<>());
                check.due("its heading", true, line.startsWith("## Promise " + (promises.size() - 1) + ":"));
            }
            promises.get(promises.size() - 1).add(line);
        }
        check.due("promises", PROMISES, promises.size() - 1);
        return promises;
    }

    private static void eachSentenceIsTested(int promise, List<String> lines, List<Sentence> tested) {
        for (String line : sentencesOf(promise, lines)) {
            boolean isTested = tested.stream()
                    .anyMatch(each -> each.promise() == promise && line.contains(each.words()));
            check.due("promise " + promise + " has a test of: " + line, true, isTested);
        }
    }

    /** All but headings, signatures and the lines of arguments. */
    private static List<String> sentencesOf(int promise, List<String> lines) {
        List<String> sentences = new ArrayList<>();
        int from = promise == 0 ? lines.indexOf("## Description") + 1 : 0;
        for (String line : lines.subList(from, lines.size())) {
            if (line.equals("## Not promised")) {
                break;
            }
            boolean isOther = line.isBlank() || line.matches("#+ .*|`.*|==== .*|- `.*|[0-9]\\. .*")
                    || line.startsWith("The constructor and the methods follow");
            if (!isOther) {
                sentences.add(line);
            }
        }
        return sentences;
    }
}
