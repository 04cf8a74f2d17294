import java.io.IOException;
import java.lang.reflect.Constructor;
import java.lang.reflect.Field;
import java.lang.reflect.Method;
import java.lang.reflect.Modifier;
import java.nio.file.Files;
import java.nio.file.Path;
import java.util.Arrays;
import java.util.Set;
import java.util.TreeSet;
import java.util.regex.Matcher;
import java.util.regex.Pattern;
import java.util.stream.Collectors;

/** What can be seen of the class is the document's face, to the word, and nothing else. */
public final class FaceTest {
    private static final String INDEX = " throws IndexOutOfBoundsException";
    private static final String LONGER = INDEX + ", UnsupportedOperationException";
    private static final String[] METHODS = {
        "int set(int, long)" + INDEX,
        "int push(int, int)" + LONGER,
        "int copy(int, int)" + INDEX,
        "int swap(int, int)" + INDEX,
        "int negate(int)" + INDEX,
        "int add(int, int, int)" + LONGER,
        "int subtract(int, int, int)" + LONGER,
        "int multiply(int, int, int)" + LONGER,
        "int addProduct(int, int, int, boolean)" + LONGER,
        "int divide(int, int, int, int)" + INDEX + ", IllegalArgumentException, ArithmeticException",
        "int exact(int, int, int)" + INDEX + ", ArithmeticException",
        "int nearest(int, int, int)" + INDEX + ", ArithmeticException",
        "int gcd(int, int, int)" + INDEX,
        "int compare(int, int)" + INDEX,
        "int sign(int)" + INDEX,
        "int length(int)" + INDEX,
        "int limb(int, int)" + INDEX,
        "int rest(int, int)" + INDEX + ", IllegalArgumentException",
        "int print(int)" + INDEX,
        "int character(int)",
    };
    private static final Path DOCUMENT = Path.of("../shared/DOC.md");
    private static final Pattern SIGNATURE = Pattern.compile("int \\w+\\([^)]*\\)[^;`\n]*");

    private FaceTest() {
    }

    public static void main(String[] args) throws IOException {
        Due due = new Due("FaceTest");
        Class<PackedNumbers> face = PackedNumbers.class;
        due.answer("the class", Modifier.toString(face.getModifiers()), "public final");
        due.answer("its package", face.getPackageName(), "");

        Set<String> methods = new TreeSet<>();
        Set<String> open = new TreeSet<>();
        Set<String> hidden = new TreeSet<>();
        for (Method method : face.getDeclaredMethods()) {
            if (Modifier.isPrivate(method.getModifiers())) {
                hidden.add(method.getName());
            } else {
                due.answer(method.getName() + " is", Modifier.toString(method.getModifiers()), "public");
                methods.add(written(method));
                open.add(method.getName());
            }
        }
        due.answer("the methods", methods, new TreeSet<>(Arrays.asList(METHODS)));
        hidden.retainAll(open);
        due.answer("private methods with a public one's name", hidden, new TreeSet<>());

        for (Field field : face.getDeclaredFields()) {
            if (!Modifier.isPrivate(field.getModifiers())) {
                due.answer("a field that is seen", field.toString(), "public static final int PackedNumbers.NONE");
            }
        }
        due.answer("NONE", PackedNumbers.NONE, -1);
        for (Constructor<?> constructor : face.getDeclaredConstructors()) {
            due.answer("a constructor", constructor.toString(), "public PackedNumbers()");
        }
        for (Class<?> inside : face.getDeclaredClasses()) {
            int modifiers = inside.getModifiers();
            due.answer(inside.getName() + " is static and not open", Modifier.isStatic(modifiers)
                && !Modifier.isPublic(modifiers) && !Modifier.isProtected(modifiers), true);
        }
        compareDocument(due);
        due.end();
    }

    /** What is written above stands in the document, under its face and once more before each promise. */
    private static void compareDocument(Due due) throws IOException {
        if (!Files.exists(DOCUMENT)) {
            System.out.println("FaceTest: " + DOCUMENT + " is not there, so its face is not compared");
            return;
        }
        String[] parts = Files.readString(DOCUMENT).split("(?m)^## ");
        for (String part : parts) {
            if (part.startsWith("The public face")) {
                due.answer("the document's face", signatures(part), new TreeSet<>(Arrays.asList(METHODS)));
            }
        }
        Set<String> promised = new TreeSet<>();
        for (String part : parts) {
            if (part.startsWith("Promise ")) {
                promised.addAll(signatures(part));
            }
        }
        due.answer("the promises' signatures", promised, new TreeSet<>(Arrays.asList(METHODS)));
    }

    private static Set<String> signatures(String part) {
        Set<String> signatures = new TreeSet<>();
        Matcher signature = SIGNATURE.matcher(part);
        while (signature.find()) {
            // Without the names of the parameters, which are no part of what is seen.
            signatures.add(signature.group().replaceAll("(int|long|boolean) \\w+(?=[,)])", "$1"));
        }
        return signatures;
    }

    private static String written(Method method) {
        String parameters = names(method.getParameterTypes());
        String exceptions = names(method.getExceptionTypes());
        return method.getReturnType().getSimpleName() + " " + method.getName() + "(" + parameters + ")"
            + (exceptions.isEmpty() ? "" : " throws " + exceptions);
    }

    private static String names(Class<?>[] classes) {
        return Arrays.stream(classes).map(Class::getSimpleName).collect(Collectors.joining(", "));
    }
}
