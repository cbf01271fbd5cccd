import java.io.IOException;
import java.lang.reflect.Method;
import java.lang.reflect.Modifier;
import java.nio.file.Files;
import java.nio.file.Path;
import java.util.List;
import java.util.regex.Matcher;
import java.util.regex.Pattern;
import java.util.stream.Collectors;
import java.util.stream.Stream;

/** README.md: its examples answer what stands behind them; it names every call, every answer below 0, every test. */
public final class ReadmeTest {
    private static final Path README = Path.of("README.md");
    private static final Path TESTS = Path.of("src/test/java");
    private static final Pattern TYPED = Pattern.compile("for \\(char letter : \"([^\"]*)\"\\.toCharArray\\(\\)\\) \\{");
    private static final Pattern CALL = Pattern.compile("x\\.(\\w+)\\(([-\\d, ]*)\\); +// (-?\\d+)(: .*)?");

    private RestRegisters x = new RestRegisters();
    private int examples = 0;
    private int calls = 0;

    private ReadmeTest() {
    }

    public static void main(String[] args) throws IOException {
        List<String> lines = Files.readAllLines(README);
        new ReadmeTest().runExamples(lines);
        namesAll(String.join("\n", lines));
        Due.end("ReadmeTest");
    }

    private void runExamples(List<String> lines) {
        boolean inExample = false;
        for (String line : lines) {
            if (line.startsWith("```")) {
                inExample = line.equals("```java");
            } else if (inExample) {
                oneLine(line.trim());
            }
        }
        Due.holds("three examples or more", examples >= 3);
        Due.holds("calls with their answers: " + calls, calls > 30);
    }

    private void oneLine(String line) {
        Matcher typed = TYPED.matcher(line);
        Matcher call = CALL.matcher(line);
        if (line.equals("RestRegisters x = new RestRegisters();")) {
            x = new RestRegisters();
            examples++;
        } else if (typed.matches()) {
            for (char letter : typed.group(1).toCharArray()) {
                Due.holds("type", x.type(letter) > 0);
            }
        } else if (call.matches()) {
            Due.due(line, Calls.call(x, call.group(1), numbers(call.group(2))), Long.parseLong(call.group(3)));
            calls++;
        } else {
            Due.holds("a line that this test can run: " + line, line.equals("x.type(letter);") || line.equals("}"));
        }
    }

    private static long[] numbers(String list) {
        return Stream.of(list.split(", *")).filter(one -> !one.isEmpty()).mapToLong(Long::parseLong).toArray();
    }

    private static void namesAll(String text) throws IOException {
        for (Method method : RestRegisters.class.getDeclaredMethods()) {
            if (Modifier.isPublic(method.getModifiers())) {
                Due.holds("the call " + method.getName() + " is named", text.contains("`" + method.getName() + "`"));
            }
        }
        for (String answer : List.of("BAD", "NOT", "FULL", "NONE", "NULL", "CAST", "INDEX", "SIZE")) {
            Due.holds("the answer " + answer + " is named", text.contains("`" + answer + "`"));
        }
        Due.holds("how to run all tests", text.contains("`.ci/run`"));
        try (Stream<Path> files = Files.list(TESTS)) {
            for (String name : files.map(file -> file.getFileName().toString()).collect(Collectors.toList())) {
                boolean isNamed = text.contains("`" + name.replace(".java", "") + "`");
                Due.holds("the test " + name + " is named", isNamed || !name.endsWith("Test.java"));
            }
        }
    }
}
