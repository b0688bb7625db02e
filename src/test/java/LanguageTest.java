import java.io.IOException;
import java.lang.reflect.Field;
import java.lang.reflect.Method;
import java.lang.reflect.Modifier;
import java.nio.file.Files;
import java.nio.file.Path;
import java.util.ArrayList;
import java.util.Arrays;
import java.util.List;
import java.util.Set;
import java.util.regex.Matcher;
import java.util.regex.Pattern;

/** Those rules of ../shared/LANGUAGE.md that can be read off the source, or off the class that it becomes. */
public final class LanguageTest {
    private static final Path SOURCE = Path.of("src/main/java/KindGuesser.java");
    private static final int MOST_LINES = 60;
    private static final int MOST_PARAMETERS = 7;
    private static final int MOST_CLASSES = 12;
    private static final int MOST_FIELDS = 20;

    /** Much of this the rules would take in its place; the class does without. */
    private static final List<String> WITHOUT = List.of("package", "try", "catch", "finally", "synchronized", "assert",
            "instanceof", "double", "float", "String", "Object", "System", "Thread", "native", "volatile", "protected",
            "super", "equals", "hashCode", "toString", "var");
    private static final Set<String> LIBRARY = Set.of("Arrays.fill", "Integer.bitCount");
    private static final Set<Class<?>> TYPES =
            Set.of(int.class, boolean.class, int[].class, boolean[].class);

    private static final Checks CHECKS = new Checks();

    public static void main(String[] args) throws IOException {
        List<String> lines = Files.readAllLines(SOURCE);
        holdsPlainSigns(lines);
        String code = codeOf(lines);
        usesOnlyWhatIsListed(code);
        throwsAsWritten(code);
        keepsMethodsShort(lines);
        keepsClassesSmall();
        CHECKS.close();
    }

    private static String codeOf(List<String> lines) {
        return String.join("\n", lines).replaceAll("(?s)/\\*.*?\\*/", "").replaceAll("//.*", "")
                .replaceAll("\"[^\"]*\"", "\"\"");
    }

    private static void holdsPlainSigns(List<String> lines) {
        for (int number = 1; number <= lines.size(); number++) {
            CHECKS.same("rule 3: line " + number + " has only signs 1 to 127", true,
                    lines.get(number - 1).chars().allMatch(sign -> sign >= 1 && sign <= 127));
        }
    }

    private static List<String> found(String regex, String code) {
        List<String> found = new ArrayList<>();
        Matcher matcher = Pattern.compile(regex).matcher(code);
        while (matcher.find()) {
            found.add(matcher.group(matcher.groupCount()));
        }
        return found;
    }

    private static void usesOnlyWhatIsListed(String code) {
        CHECKS.same("rule 4: imports", List.of("java.util.Arrays"), found("(?m)^import (.*);$", code));
        for (String word : WITHOUT) {
            CHECKS.same("rules 3, 4 and 6: the word " + word, List.of(), found("\\b" + word + "\\b", code));
        }
        CHECKS.same("rule 2: no lambda, no method reference", List.of(), found("->|::", code));
        CHECKS.same("rule 5: no static initialiser", List.of(), found("static\\s*\\{", code));
        for (String call : found("\\b([A-Z][A-Za-z]*\\.[a-z][A-Za-z]*)", code)) {
            CHECKS.same("rule 4: " + call + " is taken from the library", true, LIBRARY.contains(call));
        }
    }

    private static void throwsAsWritten(String code) {
        int throwing = found("\\bthrow\\b", code).size();
        int listed = found("\\bthrow new Illegal(State|Argument)Exception\\(\"\"\\);", code).size()
                + found("\\bthrow new IndexOutOfBoundsException\\(\"\"\\);", code).size();
        CHECKS.same("rule 6: each throw is of an exception of the document", throwing, listed);
        CHECKS.same("there are throws", true, throwing > 0);
    }

    /** A method's header ends with an opening brace, and its last line is a brace in the same column. */
    private static void keepsMethodsShort(List<String> lines) {
        int methods = 0;
        for (int start = 0; start < lines.size(); start++) {
            String head = lines.get(start);
            String indent = head.substring(0, head.length() - head.stripLeading().length());
            boolean opens = head.endsWith("{") && (indent.length() == 4 || indent.length() == 8);
            if (opens && !head.contains(" class ") && head.contains(")")) {
                int length = lines.subList(start, lines.size()).indexOf(indent + "}") + 1;
                CHECKS.same("rule 11: " + head.strip() + " has at most " + MOST_LINES + " lines", true,
                        length > 0 && length <= MOST_LINES);
                methods++;
            }
        }
        CHECKS.same("there are methods", true, methods > 0);
    }

    private static void keepsClassesSmall() {
        List<Class<?>> classes = new ArrayList<>(List.of(KindGuesser.class.getDeclaredClasses()));
        classes.add(KindGuesser.class);
        CHECKS.same("rule 11: at most " + MOST_CLASSES + " classes", true, classes.size() <= MOST_CLASSES);
        for (Class<?> type : classes) {
            String name = type.getSimpleName();
            long fields = Arrays.stream(type.getDeclaredFields())
                    .filter(field -> !Modifier.isStatic(field.getModifiers())).count();
            CHECKS.same("rule 11: fields of " + name, true, fields <= MOST_FIELDS);
            for (Method method : type.getDeclaredMethods()) {
                CHECKS.same("rule 11: parameters of " + name + "." + method.getName(), true,
                        method.getParameterCount() <= MOST_PARAMETERS);
            }
            for (Field field : type.getDeclaredFields()) {
                keepsField(name, classes, field);
            }
        }
    }

    private static void keepsField(String name, List<Class<?>> classes, Field field) {
        CHECKS.same("rule 3: the type of " + name + "." + field.getName(), true,
                TYPES.contains(field.getType()) || classes.contains(field.getType()));
        boolean constant = Modifier.isFinal(field.getModifiers()) && field.getType() == int.class;
        CHECKS.same("rule 5: " + name + "." + field.getName() + " is a constant if static", true,
                constant || !Modifier.isStatic(field.getModifiers()));
    }
}
