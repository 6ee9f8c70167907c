import java.io.IOException;
import java.lang.reflect.Constructor;
import java.lang.reflect.Field;
import java.lang.reflect.Method;
import java.lang.reflect.Modifier;
import java.nio.file.Files;
import java.nio.file.Path;
import java.util.ArrayList;
import java.util.Arrays;
import java.util.Collections;
import java.util.HashSet;
import java.util.List;
import java.util.Set;
import java.util.regex.Pattern;
import java.util.stream.Collectors;

/** The face of the document, read from the document itself, and the rules of LANGUAGE.md that can be seen. */
public final class FaceTest {
    private static final Check check = new Check();
    private static final Path DOCUMENT = Path.of("../shared/DOC.md");
    private static final String THROWN = "IllegalStateException|IllegalArgumentException|IndexOutOfBoundsException"
            + "|ArithmeticException|UnsupportedOperationException|NoSuchElementException|RuntimeException";
    private static final Path CLASS_FILE = Path.of("src/main/java/Orderbench.java");

    public static void main(String[] args) throws IOException {
        faceIsTheDocuments();
        nothingElseIsSeen();
        noPrivateMethodHasAPublicName();
        staticFieldsAreFinal();
        forbiddenWords();
        methodsAreShort();
        check.finish("FaceTest");
    }

    private static void faceIsTheDocuments() throws IOException {
        List<String> due = new ArrayList<>();
        for (String line : Files.readAllLines(DOCUMENT)) {
            if (line.startsWith("    public ") && line.endsWith(";") && !line.contains(" Orderbench(")) {
                due.add(line.strip().replaceAll("(boolean|int) [a-z][A-Za-z]*(?=[,)])", "$1"));
            }
        }
        List<String> got = new ArrayList<>();
        for (Method method : Orderbench.class.getDeclaredMethods()) {
            if (Modifier.isPublic(method.getModifiers())) {
                got.add(signature(method));
            }
        }
        Collections.sort(due);
        Collections.sort(got);
        check.due("how many methods the document has", 37, due.size());
        check.due("methods", due, got);
    }

    private static String signature(Method method) {
        String types = Arrays.stream(method.getParameterTypes()).map(Class::getSimpleName)
                .collect(Collectors.joining(", "));
        String thrown = Arrays.stream(method.getExceptionTypes()).map(Class::getSimpleName)
                .collect(Collectors.joining(", "));
        return "public " + method.getReturnType().getSimpleName() + " " + method.getName() + "(" + types + ")"
                + (thrown.isEmpty() ? "" : " throws " + thrown) + ";";
    }

    private static void nothingElseIsSeen() {
        check.due("final", true, Modifier.isFinal(Orderbench.class.getModifiers()));
        check.due("public", true, Modifier.isPublic(Orderbench.class.getModifiers()));
        Constructor<?>[] made = Orderbench.class.getDeclaredConstructors();
        check.due("constructors", "[public Orderbench()]", Arrays.toString(made));
        for (Field field : Orderbench.class.getDeclaredFields()) {
            check.due(field + " is private", true, Modifier.isPrivate(field.getModifiers()));
        }
        for (Method method : Orderbench.class.getDeclaredMethods()) {
            boolean seen = !Modifier.isPrivate(method.getModifiers()) && !Modifier.isPublic(method.getModifiers());
            check.due(method + " is public or private", false, seen);
        }
    }

    private static void noPrivateMethodHasAPublicName() {
        Set<String> face = new HashSet<>();
        List<Method> others = new ArrayList<>();
        for (Method method : Orderbench.class.getDeclaredMethods()) {
            if (Modifier.isPublic(method.getModifiers())) {
                face.add(method.getName());
            } else {
                others.add(method);
            }
        }
        for (Method method : others) {
            check.due(method + " has a name of its own", false, face.contains(method.getName()));
        }
        for (Class<?> inside : Orderbench.class.getDeclaredClasses()) {
            others.addAll(Arrays.asList(inside.getDeclaredMethods()));
        }
        for (Method method : others) {
            check.due(method + " is no other's equals, hashCode or toString", false,
                    List.of("equals", "hashCode", "toString").contains(method.getName()));
            check.due(method + " has at most seven parameters", true, method.getParameterCount() <= 7);
        }
    }

    private static void staticFieldsAreFinal() {
        List<Class<?>> all = new ArrayList<>(List.of(Orderbench.class.getDeclaredClasses()));
        check.due("at most some twelve classes", true, all.size() < 12);
        all.add(Orderbench.class);
        for (Class<?> each : all) {
            for (Field field : each.getDeclaredFields()) {
                boolean isStatic = Modifier.isStatic(field.getModifiers());
                check.due(field + " is final, if static", true, !isStatic || Modifier.isFinal(field.getModifiers()));
            }
        }
    }

    private static void forbiddenWords() throws IOException {
        String code = codeAlone(Files.readString(CLASS_FILE));
        String[] forbidden = {
            "(?m)^(?!\\s*(case|default)\\b).*->", "::", "\\bpackage\\b", "\\bfinally\\b", "\\bsynchronized\\b",
            "\\bassert\\b", "\\btry *\\(", "\\bSystem\\.(?!arraycopy)", "\\bRandom\\b", "\\bThread\\b", "Exact\\(",
            "\\bHash(Map|Set)\\b", "\\bObject\\b", "@(?!Override\\b)", "\" *\\+", "\\+ *\"", "\\bwhile *\\(true",
            "[^\\x00-\\x7f]", "\\bimport (?!java\\.util\\.(ArrayList|List|Iterator|Arrays|NoSuchElementException);)",
            "\\bcatch *\\((?!(" + THROWN + ")\\b)", "\\bthrow (?!new (" + THROWN + ")\\((\"[^\"]*\")?\\);)"
        };
        for (String word : forbidden) {
            check.due("in the class: " + word, false, Pattern.compile(word).matcher(code).find());
        }
    }

    private static String codeAlone(String file) {
        return file.replaceAll("(?s)/\\*.*?\\*/", "").replaceAll("//[^\n]*", "");
    }

    private static void methodsAreShort() throws IOException {
        int opened = 0;
        int line = 0;
        for (String text : Files.readAllLines(CLASS_FILE)) {
            line++;
            if (text.matches("( {4}| {8})[A-Za-z].*\\{") && !text.matches(".*\\b(class|if|for|while|switch)\\b.*")) {
                opened = line;
            } else if (text.matches("( {4}| {8})\\}") && opened > 0) {
                check.due("the method at line " + opened + " is short", true, line - opened < 60);
                opened = 0;
            }
        }
    }
}
