import java.io.IOException;
import java.lang.reflect.Method;
import java.lang.reflect.Modifier;
import java.net.URL;
import java.net.URLClassLoader;
import java.nio.file.Files;
import java.nio.file.Path;
import java.util.ArrayList;
import java.util.Comparator;
import java.util.List;
import java.util.function.Supplier;
import java.util.regex.Matcher;
import java.util.regex.Pattern;
import java.util.stream.Stream;
import javax.tools.ToolProvider;

/** What README.md shows of the class's use compiles, and each call answers what stands behind it. */
public final class ReadmeTests {
    private static final Path README = Path.of("README.md");
    private static final String NEW_OBJECT = "ChainSums sums = new ChainSums();";
    private static final Pattern CALL = Pattern.compile(
            "(?<kept>(?:int|long|boolean) \\w+ = )?(?<call>sums\\.\\w+\\([^()]*\\)); +// "
            + "(?<answer>-?\\d+|true|false|ArithmeticException)(?: .*|[,:;] .*)?");

    public static void main(String[] args) throws Exception {
        List<String> readme = Files.readAllLines(README);
        List<String> shown = shownLines(readme);
        Answers.test("each line shown", () -> eachLineTellsItsAnswer(shown));
        Answers.test("the calls shown", () -> callsAnswerAsShown(shown));
        Answers.test("the face", () -> everyCallOfTheFaceIsShown(shown));
        Answers.test("the tests", () -> everyTestIsNamed(String.join("\n", readme)));
        Answers.end();
    }

    /** All blocks of Java are one run on one object, so they are read as one. */
    private static List<String> shownLines(List<String> readme) {
        List<String> shown = new ArrayList<>();
        boolean inside = false;
        for (String line : readme) {
            if (line.startsWith("```")) {
                inside = line.equals("```java");
            } else if (inside && !line.isBlank()) {
                shown.add(line);
            }
        }
        return shown;
    }

    private static void eachLineTellsItsAnswer(List<String> shown) {
        Answers.due("that there are lines", shown.size() > 1, true);
        for (String line : shown) {
            Answers.due(line, line.equals(NEW_OBJECT) || CALL.matcher(line).matches(), true);
        }
    }

    private static void callsAnswerAsShown(List<String> shown) {
        List<Matcher> calls = new ArrayList<>();
        for (String line : shown) {
            Matcher call = CALL.matcher(line);
            if (call.matches()) {
                calls.add(call);
            }
        }
        List<String> answers = answersOf(programOf(shown));
        Answers.due("how many answer", answers.size(), calls.size());
        for (int i = 0; i < Math.min(answers.size(), calls.size()); i++) {
            Answers.due(calls.get(i).group("call"), answers.get(i), calls.get(i).group("answer"));
        }
    }

    /** The lines as they stand, but that each call's answer is also put into a list. */
    private static String programOf(List<String> shown) {
        StringBuilder program = new StringBuilder();
        program.append("import java.util.*;\n");
        program.append("public class ReadmeUse implements java.util.function.Supplier<List<String>> {\n");
        program.append("public List<String> get() {\nList<String> answers = new ArrayList<>();\n");
        for (String line : shown) {
            Matcher call = CALL.matcher(line);
            if (!call.matches()) {
                program.append(line).append('\n');
            } else if (call.group("kept") != null) {
                String name = call.group("kept").split(" ")[1];
                program.append(line).append("\nanswers.add(String.valueOf(").append(name).append("));\n");
            } else {
                program.append("try { answers.add(String.valueOf(").append(call.group("call"));
                program.append(")); } catch (ArithmeticException e) { answers.add(\"ArithmeticException\"); }\n");
            }
        }
        return program.append("return answers;\n}\n}\n").toString();
    }

    @SuppressWarnings("unchecked")
    private static List<String> answersOf(String program) {
        try {
            Path folder = Files.createTempDirectory("readme");
            try {
                Path source = Files.writeString(folder.resolve("ReadmeUse.java"), program);
                int compiled = ToolProvider.getSystemJavaCompiler().run(null, null, null, "-d", folder.toString(),
                        "-cp", System.getProperty("java.class.path"), source.toString());
                Answers.due("what the compiler says", compiled, 0);
                try (URLClassLoader loader = new URLClassLoader(new URL[] {folder.toUri().toURL()})) {
                    return ((Supplier<List<String>>) loader.loadClass("ReadmeUse").getDeclaredConstructor()
                            .newInstance()).get();
                }
            } finally {
                remove(folder);
            }
        } catch (IOException | ReflectiveOperationException e) {
            throw new IllegalStateException(e);
        }
    }

    private static void remove(Path folder) throws IOException {
        try (Stream<Path> all = Files.walk(folder)) {
            for (Path path : all.sorted(Comparator.reverseOrder()).toList()) {
                Files.delete(path);
            }
        }
    }

    private static void everyCallOfTheFaceIsShown(List<String> shown) {
        for (Method m : ChainSums.class.getDeclaredMethods()) {
            if (Modifier.isPublic(m.getModifiers())) {
                String begin = "sums." + m.getName() + "(";
                Answers.due(begin + " shown", shown.stream().anyMatch(line -> line.contains(begin)), true);
            }
        }
    }

    private static void everyTestIsNamed(String readme) {
        try (Stream<Path> tests = Files.list(Path.of("src/test/java"))) {
            for (Path test : tests.toList()) {
                String name = "`src/test/java/" + test.getFileName() + "`";
                Answers.due(name + " named", readme.contains(name), true);
            }
        } catch (IOException e) {
            throw new IllegalStateException(e);
        }
    }
}
