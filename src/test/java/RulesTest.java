import java.io.IOException;
import java.lang.reflect.Array;
import java.lang.reflect.Field;
import java.lang.reflect.Method;
import java.lang.reflect.Modifier;
import java.nio.file.Files;
import java.nio.file.Path;
import java.util.ArrayList;
import java.util.Arrays;
import java.util.IdentityHashMap;
import java.util.List;
import java.util.Map;
import java.util.Random;
import java.util.Set;
import java.util.TreeSet;
import java.util.regex.Matcher;
import java.util.regex.Pattern;

/**
 * The rules of the language, as far as they can be told from the source's text, from what the class is made of, and
 * from calls on an object in a state that the document leaves free; run from the project's folder.
 */
public final class RulesTest {
    private static final String[] NEVER = {
        "\\bimport\\b", "\\bpackage\\b", "->", "::", "\\bfinally\\b", "\\bsynchronized\\b", "\\bassert\\b", "\\btry\\b",
        "\\bcatch\\b", "\\w+Exact\\b", "\\bBigInteger\\b", "\\bjava\\.", "\\bdouble\\b", "\\bfloat\\b", "\\bprotected\\b",
        "\\bstatic\\s*\\{", "\\bequals\\b", "\\bhashCode\\b", "\\btoString\\b", "while \\(true\\)", "for \\(;",
    };
    private static final Set<String> LIBRARY = Set.of("Math.max", "Math.min", "Math.abs", "System.arraycopy",
        "Integer.numberOfLeadingZeros");
    private static final Set<String> THROWN = Set.of("IndexOutOfBoundsException", "UnsupportedOperationException",
        "IllegalArgumentException", "ArithmeticException");
    private static final int MOST_LINES = 60;
    private static final int MOST_PARAMETERS = 7;
    private static final int MOST_CLASSES = 12;
    private static final int MOST_FIELDS = 20;
    // A run has one object, so this is far below what all its calls may make together.
    private static final int MOST_OBJECTS = 100;
    private static final int MOST_ELEMENTS = 100000;

    private final Due due = new Due("RulesTest");

    private RulesTest() {
    }

    public static void main(String[] args) throws IOException, ReflectiveOperationException {
        RulesTest test = new RulesTest();
        test.text(Files.readString(Path.of("src/main/java/PackedNumbers.java")));
        test.classes();
        test.room();
        test.beyondThe512thCall();
        test.due.end();
    }

    private void text(String source) {
        String code = source.replaceAll("(?s)/\\*.*?\\*/", "").replaceAll("//[^\n]*", "")
            .replaceAll("\"[^\"]*\"", "\"\"");
        for (String never : NEVER) {
            Matcher found = Pattern.compile(never).matcher(code);
            due.answer("rule: no " + never, found.find() ? found.group() : "", "");
        }
        Matcher library = Pattern.compile("\\b[A-Z][a-z]\\w*\\.\\w+").matcher(code);
        while (library.find()) {
            String name = library.group();
            due.answer("rule 4: the library has " + name, LIBRARY.contains(name) || name.startsWith("Division."), true);
        }
        Matcher thrown = Pattern.compile("\\bthrow\\b([^;]*);").matcher(code);
        while (thrown.find()) {
            Matcher made = Pattern.compile(" new (\\w+)\\(\"\"\\)").matcher(thrown.group(1));
            due.answer("rule 6: throw" + thrown.group(1), made.matches() && THROWN.contains(made.group(1)), true);
        }
        due.answer("rule 12: no call makes an object but an exception",
            Pattern.compile("\\bnew (?!\\w*Exception\\(|(Store|Euclid|Text|Row)\\(\\)|(int|byte|boolean)\\[[A-Z_]+\\];)")
                .matcher(code).find(), false);
        due.answer("rule 3: characters 0 to 255", source.chars().allMatch(c -> c < 256), true);
        due.answer("rule 11: methods are short", longestMethod(code) <= MOST_LINES, true);
    }

    /** Lines from a line that opens a method to the line that closes it. */
    private static int longestMethod(String code) {
        int longest = 0;
        int from = 0;
        int line = 0;
        for (String text : code.split("\n")) {
            line++;
            if (text.matches(" {4,8}(public|private)[^=;]*\\(.*")) {
                from = line;
            }
            if (text.matches(" {4,8}\\}")) {
                longest = Math.max(longest, line - from);
            }
        }
        return longest;
    }

    private void classes() {
        List<Class<?>> all = new ArrayList<>(List.of(PackedNumbers.class));
        all.addAll(Arrays.asList(PackedNumbers.class.getDeclaredClasses()));
        due.answer("rule 11: classes", all.size() <= MOST_CLASSES, true);
        Set<String> face = new TreeSet<>();
        for (Method method : PackedNumbers.class.getDeclaredMethods()) {
            if (Modifier.isPublic(method.getModifiers())) {
                face.add(method.getName());
            }
        }
        for (Class<?> one : all) {
            int fields = 0;
            for (Field field : one.getDeclaredFields()) {
                boolean isStatic = Modifier.isStatic(field.getModifiers());
                fields += isStatic ? 0 : 1;
                due.answer("rule 5: " + field + " is final where it is static",
                    !isStatic || Modifier.isFinal(field.getModifiers()), true);
            }
            due.answer("rule 11: fields of " + one.getName(), fields <= MOST_FIELDS, true);
            for (Method method : one.getDeclaredMethods()) {
                due.answer("rule 11: parameters of " + method, method.getParameterCount() <= MOST_PARAMETERS, true);
                boolean hidden = Modifier.isPrivate(method.getModifiers());
                due.answer("rule 1: " + method + " bears a public one's name",
                    hidden && face.contains(method.getName()), false);
            }
        }
    }

    /** As no call makes anything, what a new object is made of is all that a run has but for its exceptions. */
    private void room() throws ReflectiveOperationException {
        Map<Object, Integer> made = new IdentityHashMap<>();
        count(new PackedNumbers(), made);
        int elements = made.values().stream().mapToInt(Integer::intValue).sum();
        due.answer("rule 12: an object and what it is made of, " + made.size(), made.size() <= MOST_OBJECTS, true);
        due.answer("rule 12: their fields and elements, " + elements, elements <= MOST_ELEMENTS, true);
    }

    private static void count(Object object, Map<Object, Integer> made) throws ReflectiveOperationException {
        if (made.containsKey(object)) {
            return;
        }
        if (object.getClass().isArray()) {
            made.put(object, Array.getLength(object));
            return;
        }
        int fields = 0;
        made.put(object, fields);
        for (Field field : object.getClass().getDeclaredFields()) {
            if (!Modifier.isStatic(field.getModifiers())) {
                fields++;
                field.setAccessible(true);
                if (!field.getType().isPrimitive()) {
                    count(field.get(object), made);
                }
            }
        }
        made.put(object, fields);
    }

    /** What these calls answer is free, but rule 7 has no end: none of them throws what the document does not name. */
    private void beyondThe512thCall() {
        Random random = new Random(7);
        PackedNumbers x = new PackedNumbers();
        String[] calls = {"set", "push", "copy", "swap", "negate", "add", "subtract", "multiply", "addProduct", "divide",
            "exact", "nearest", "gcd", "compare", "sign", "length", "limb", "rest", "print", "character", "push", "push",
            "multiply", "add"};
        for (int call = 0; call < 20000; call++) {
            String row = calls[random.nextInt(calls.length)];
            for (int argument = 0; argument < 4; argument++) {
                row += " " + (random.nextInt(40) == 0 ? random.nextInt() : random.nextInt(24));
            }
            String outcome = Due.outcome(Calls.on(x, row));
            due.answer("rule 7: call " + call + ", " + row + ": " + outcome,
                THROWN.contains(outcome) || outcome.matches("-?\\d+"), true);
        }
    }
}
