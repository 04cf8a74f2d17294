import java.io.ByteArrayOutputStream;
import java.io.IOException;
import java.io.PrintStream;
import java.lang.reflect.Method;
import java.lang.reflect.Modifier;
import java.nio.charset.StandardCharsets;
import java.nio.file.Files;
import java.nio.file.Path;
import java.util.ArrayList;
import java.util.Arrays;
import java.util.List;
import java.util.Map;
import java.util.TreeMap;
import java.util.regex.Matcher;
import java.util.regex.Pattern;

/** README.md's example does what it says, and its table has every call of the face; run from the project's folder. */
public final class ReadmeTest {
    private static final Map<String, String> EXCEPTIONS = Map.of("Index", "IndexOutOfBoundsException",
        "Unsupported", "UnsupportedOperationException", "Argument", "IllegalArgumentException",
        "Arithmetic", "ArithmeticException");
    private static final Pattern BLOCK = Pattern.compile("(?ms)^```\\w*\n(.*?)^```");
    private static final Pattern ANSWERED = Pattern.compile("x\\.(\\w+)\\((.*?)\\); *// answers (-?\\d+)");
    private static final Pattern ROW = Pattern.compile("(?m)^\\| `(\\w+)\\((.*?)\\)` \\|.*\\|(.*)\\|$");

    private final Due due = new Due("ReadmeTest");
    private final String readme;
    private final List<String> blocks = new ArrayList<>();

    private ReadmeTest(String readme) {
        this.readme = readme;
        Matcher block = BLOCK.matcher(readme);
        while (block.find()) {
            blocks.add(block.group(1));
        }
    }

    public static void main(String[] args) throws IOException {
        ReadmeTest test = new ReadmeTest(Files.readString(Path.of("README.md")));
        test.exampleIsTheSource();
        test.exampleAnswers();
        test.examplePrints();
        test.table();
        test.command();
        test.due.end();
    }

    private void exampleIsTheSource() throws IOException {
        String source = Files.readString(Path.of("src/test/java/Example.java"));
        String body = source.substring(source.indexOf("        PackedNumbers x"), source.lastIndexOf("    }\n}"));
        due.answer("the example", blocks.get(0), body.replaceAll("(?m)^ {8}", ""));
    }

    private void exampleAnswers() {
        PackedNumbers x = new PackedNumbers();
        Matcher line = ANSWERED.matcher(blocks.get(0));
        int lines = 0;
        while (line.find()) {
            String row = line.group(1) + " " + line.group(2).replace(",", "");
            due.answer("the example's " + row, Due.outcome(Calls.on(x, row)), line.group(3));
            lines++;
        }
        due.answer("lines of the example with an answer", lines, 10);
    }

    private void examplePrints() {
        PrintStream before = System.out;
        ByteArrayOutputStream printed = new ByteArrayOutputStream();
        System.setOut(new PrintStream(printed, true, StandardCharsets.UTF_8));
        Example.main(new String[0]);
        System.setOut(before);
        String text = printed.toString(StandardCharsets.UTF_8).replace(System.lineSeparator(), "\n");
        due.answer("what the example prints", blocks.get(1), text);
    }

    /** Names, how many arguments, and the exceptions in their order. */
    private void table() {
        Map<String, String> written = new TreeMap<>();
        Matcher row = ROW.matcher(readme);
        while (row.find()) {
            List<String> exceptions = new ArrayList<>();
            for (String word : row.group(3).split("\\W+")) {
                if (EXCEPTIONS.containsKey(word)) {
                    exceptions.add(EXCEPTIONS.get(word));
                }
            }
            String twice = written.put(row.group(1), row.group(2).split(",").length + " " + exceptions);
            due.answer("rows before that of " + row.group(1), twice == null, true);
        }
        Map<String, String> face = new TreeMap<>();
        for (Method method : PackedNumbers.class.getDeclaredMethods()) {
            if (Modifier.isPublic(method.getModifiers())) {
                List<String> exceptions = Arrays.stream(method.getExceptionTypes()).map(Class::getSimpleName).toList();
                face.put(method.getName(), method.getParameterCount() + " " + exceptions);
            }
        }
        due.answer("the table of calls", written, face);
        for (Map.Entry<String, String> name : EXCEPTIONS.entrySet()) {
            due.answer("what " + name.getKey() + " is",
                readme.contains(name.getKey() + " is `" + name.getValue() + "`"), true);
        }
    }

    private void command() {
        String command = blocks.get(2).trim();
        due.answer("the command that runs the tests", command, ".ci/run");
        due.answer("it can be run", Files.isExecutable(Path.of(command)), true);
    }
}
