import java.lang.reflect.Constructor;
import java.lang.reflect.Method;
import java.lang.reflect.Modifier;
import java.util.Arrays;
import java.util.List;
import java.util.Set;
import java.util.TreeSet;
import java.util.stream.Collectors;

/** The face of the class: just what the document lists, and rules 1 and 5 of the language. */
public final class FaceTest {
    private static final Checks CHECKS = new Checks();

    private static final String I = " IndexOutOfBoundsException";
    private static final String A = " IllegalArgumentException";
    private static final String S = " IllegalStateException";

    private static final List<String> FACE = List.of(
            "int kind(int)" + I + S,
            "int pattern(int,int,int,int,int)" + I + A + S,
            "int drop(int)" + I,
            "int rule(int,int)" + I + A + S,
            "int test(int,int,int,int,int,int)" + I + A + S,
            "int kinds()",
            "boolean isSpecial(int,int)" + I,
            "int letter(int)" + A + S,
            "int put(int)" + A + S,
            "int empty()",
            "boolean fits(int)" + I,
            "boolean fitsByTable(int)" + I,
            "boolean proves(int)" + I,
            "int byName()",
            "int byBytes()",
            "int guess()",
            "int program(int,int,int,int)" + I + A,
            "int setDefault(int,int,int)" + I + A,
            "int programs(int)" + I,
            "int programAt(int,int)" + I,
            "int opener(int)" + I);

    public static void main(String[] args) {
        showsTheFace();
        hidesAllElse();
        CHECKS.close();
    }

    private static void showsTheFace() {
        Class<?> type = KindGuesser.class;
        CHECKS.same("the class is", Modifier.PUBLIC | Modifier.FINAL, type.getModifiers());
        CHECKS.same("constructors", 1, type.getDeclaredConstructors().length);
        Constructor<?> constructor = type.getDeclaredConstructors()[0];
        CHECKS.same("the constructor is", Modifier.PUBLIC, constructor.getModifiers());
        CHECKS.same("parameters of the constructor", 0, constructor.getParameterCount());
        CHECKS.same("exceptions of the constructor", 0, constructor.getExceptionTypes().length);
        Set<String> got = Arrays.stream(type.getDeclaredMethods())
                .filter(method -> !Modifier.isPrivate(method.getModifiers()) && !method.isSynthetic())
                .map(FaceTest::tell)
                .collect(Collectors.toCollection(TreeSet::new));
        CHECKS.same("the face", new TreeSet<>(FACE).toString(), got.toString());
    }

    private static String tell(Method method) {
        String parameters = Arrays.stream(method.getParameterTypes())
                .map(Class::getSimpleName)
                .collect(Collectors.joining(","));
        String exceptions = Arrays.stream(method.getExceptionTypes())
                .map(exception -> " " + exception.getSimpleName())
                .collect(Collectors.joining());
        boolean plain = method.getModifiers() == Modifier.PUBLIC;
        return (plain ? "" : "not plainly public: ") + method.getReturnType().getSimpleName() + " "
                + method.getName() + "(" + parameters + ")" + exceptions;
    }

    private static void hidesAllElse() {
        Set<String> names = Arrays.stream(KindGuesser.class.getMethods()).map(Method::getName)
                .collect(Collectors.toSet());
        Arrays.stream(KindGuesser.class.getDeclaredMethods())
                .filter(method -> Modifier.isPrivate(method.getModifiers()))
                .forEach(method -> CHECKS.same("a public method is named as the private one " + method.getName(),
                        false, names.contains(method.getName())));
        Arrays.stream(KindGuesser.class.getDeclaredFields()).forEach(field -> {
            CHECKS.same(field.getName() + " is private", true, Modifier.isPrivate(field.getModifiers()));
            CHECKS.same(field.getName() + " is final if static", true,
                    !Modifier.isStatic(field.getModifiers()) || Modifier.isFinal(field.getModifiers()));
        });
        for (Class<?> inner : KindGuesser.class.getDeclaredClasses()) {
            CHECKS.same(inner.getSimpleName() + " is static", true, Modifier.isStatic(inner.getModifiers()));
            CHECKS.same(inner.getSimpleName() + " is hidden", false,
                    Modifier.isPublic(inner.getModifiers()) || Modifier.isProtected(inner.getModifiers()));
        }
    }
}
