import java.io.IOException;
import java.lang.reflect.Method;
import java.lang.reflect.Modifier;
import java.net.URL;
import java.net.URLClassLoader;
import java.nio.file.Files;
import java.nio.file.Path;
import java.util.ArrayList;
import java.util.Arrays;
import java.util.List;
import java.util.TreeSet;
import java.util.regex.Matcher;
import java.util.regex.Pattern;
import java.util.stream.Collectors;
import javax.tools.ToolProvider;

/** README.md: each call of its example answers what stands behind it, and its table has each call of the face. */
public final class ReadmeTest {
    private static final Path README = Path.of("README.md");
    private static final String EXAMPLE = "ReadmeExample";
    private static final Pattern ANSWERED =
            Pattern.compile("(?:int (\\w+) = )?(guesser\\.\\w+\\(.*\\));\\s*// (-?\\d+|true|false)\\b.*");
    private static final Pattern ROW = Pattern.compile("\\| `(\\w+)\\((.*)\\)` \\|.*");

    private static final Checks CHECKS = new Checks();

    public static void main(String[] args) throws IOException, ReflectiveOperationException {
        List<String> lines = Files.readAllLines(README);
        List<String> example = exampleOf(lines);
        answersAsTold(example);
        showsEachCall(example);
        listsEachCall(lines);
        CHECKS.close();
    }

    private static List<String> exampleOf(List<String> lines) {
        int start = lines.indexOf("```java") + 1;
        return lines.subList(start, start + lines.subList(start, lines.size()).indexOf("```"));
    }

    private static boolean isSilent(String line) {
        return line.isEmpty() || line.startsWith("//") || line.equals("KindGuesser guesser = new KindGuesser();");
    }

    /** Makes a class of the example, which keeps the answers in a list, and compares these. */
    private static void answersAsTold(List<String> example) throws IOException, ReflectiveOperationException {
        List<String> due = new ArrayList<>();
        List<String> calls = new ArrayList<>();
        StringBuilder body = new StringBuilder();
        for (String line : example) {
            Matcher answered = ANSWERED.matcher(line);
            if (answered.matches()) {
                calls.add(answered.group(2));
                due.add(answered.group(3));
                String name = answered.group(1) == null ? "answer" + due.size() : answered.group(1);
                body.append("var ").append(name).append(" = ").append(answered.group(2)).append(";\n");
                body.append("answers.add(String.valueOf(").append(name).append("));\n");
            } else {
                CHECKS.same("a line without an answer behind it: " + line, true, isSilent(line));
                body.append(line).append('\n');
            }
        }
        List<?> got = run(body.toString());
        CHECKS.same("answers", due.size(), got.size());
        for (int place = 0; place < due.size(); place++) {
            CHECKS.same("the example's " + calls.get(place), due.get(place), got.get(place));
        }
    }

    private static List<?> run(String body) throws IOException, ReflectiveOperationException {
        Path folder = Files.createTempDirectory("readme");
        Path source = folder.resolve(EXAMPLE + ".java");
        Files.writeString(source, "public class " + EXAMPLE + " {\npublic static java.util.List<String> run() {\n"
                + "java.util.List<String> answers = new java.util.ArrayList<>();\n" + body + "return answers;\n}\n}\n");
        int failed = ToolProvider.getSystemJavaCompiler().run(null, null, null,
                "-cp", System.getProperty("java.class.path"), "-d", folder.toString(), source.toString());
        CHECKS.same("what compiling the example ends with", 0, failed);
        try (URLClassLoader loader = new URLClassLoader(new URL[] {folder.toUri().toURL()})) {
            return (List<?>) loader.loadClass(EXAMPLE).getMethod("run").invoke(null);
        } finally {
            Files.deleteIfExists(source);
            Files.deleteIfExists(folder.resolve(EXAMPLE + ".class"));
            Files.deleteIfExists(folder);
        }
    }

    private static List<Method> face() {
        return Arrays.stream(KindGuesser.class.getDeclaredMethods())
                .filter(method -> Modifier.isPublic(method.getModifiers())).toList();
    }

    private static void showsEachCall(List<String> example) {
        for (Method method : face()) {
            CHECKS.same("the example calls " + method.getName(), true,
                    example.stream().anyMatch(line -> line.contains("guesser." + method.getName() + "(")));
        }
    }

    private static void listsEachCall(List<String> lines) {
        TreeSet<String> due = face().stream().map(method -> method.getName() + " of " + method.getParameterCount())
                .collect(Collectors.toCollection(TreeSet::new));
        TreeSet<String> got = lines.stream().map(ROW::matcher).filter(Matcher::matches)
                .map(row -> row.group(1) + " of " + (row.group(2).isEmpty() ? 0 : row.group(2).split(", ").length))
                .collect(Collectors.toCollection(TreeSet::new));
        CHECKS.same("the table's calls", due.toString(), got.toString());
    }
}
