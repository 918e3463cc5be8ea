import java.io.IOException;
import java.lang.reflect.Field;
import java.lang.reflect.Method;
import java.lang.reflect.Modifier;
import java.nio.file.Files;
import java.nio.file.Path;
import java.util.List;
import java.util.regex.Matcher;
import java.util.regex.Pattern;
import java.util.stream.Collectors;
import java.util.stream.Stream;

/** README.md is there, what it shows is true, and it leaves out no call, no answer and no test. */
public final class ReadmeTest {
    private static final Path README = Path.of("README.md");
    private static final String BEGINNING = "AdapterBench bench = new AdapterBench();";
    private static final Pattern LINE = Pattern.compile("bench\\.(\\w+)\\(([^()]*)\\); +// (-?\\w+)(: .+)?");

    private ReadmeTest() {
    }

    public static void main(String[] args) throws IOException, ReflectiveOperationException {
        Check.due("README.md is there", Files.isRegularFile(README), true);
        if (Files.isRegularFile(README)) {
            String text = Files.readString(README);
            example(text);
            callsAndAnswers(text);
            tests(text);
        }
        Check.end("ReadmeTest");
    }

    private static void example(String text) throws ReflectiveOperationException {
        Matcher block = Pattern.compile("(?s)```java\n(.*?)```").matcher(text);
        boolean isThere = block.find();
        Check.due("an example", isThere, true);
        List<String> lines = isThere ? block.group(1).lines().collect(Collectors.toList()) : List.of("");
        Check.due("it begins with a new object", lines.get(0).equals(BEGINNING), true);
        AdapterBench bench = new AdapterBench();
        for (String line : lines.subList(1, lines.size())) {
            Matcher parts = LINE.matcher(line);
            boolean isCall = parts.matches();
            Check.due("a call and its answer: " + line, isCall, true);
            if (isCall) {
                long got = Calls.on(bench, parts.group(1), numbers(parts.group(2)));
                Check.due(line, got, number(parts.group(3)));
            }
        }
    }

    private static long[] numbers(String arguments) throws ReflectiveOperationException {
        if (arguments.isBlank()) {
            return new long[0];
        }
        String[] parts = arguments.split(", *");
        long[] all = new long[parts.length];
        for (int i = 0; i < parts.length; i++) {
            all[i] = number(parts[i]);
        }
        return all;
    }

    /** A number as Java writes it (a 0 ahead: octal digits), a truth, or one of the class's constants. */
    private static long number(String word) throws ReflectiveOperationException {
        if (word.equals("true") || word.equals("false")) {
            return word.equals("true") ? 1 : 0;
        }
        if (Character.isUpperCase(word.charAt(0))) {
            return AdapterBench.class.getField(word).getInt(null);
        }
        return Long.decode(word.replace("_", ""));
    }

    private static void callsAndAnswers(String text) throws ReflectiveOperationException {
        for (Method method : AdapterBench.class.getDeclaredMethods()) {
            if (Modifier.isPublic(method.getModifiers())) {
                Pattern row = Pattern.compile("(?m)^\\| `" + method.getName() + "\\(([^()`]*)\\)` \\| .+ \\|$");
                Matcher found = row.matcher(text);
                boolean is = found.find();
                Check.due("a row for " + method.getName(), is, true);
                int named = is && !found.group(1).isEmpty() ? found.group(1).split(", ").length : 0;
                Check.due("its numbers: " + method.getName(), named, method.getParameterCount());
            }
        }
        for (Field field : AdapterBench.class.getFields()) {
            String row = "| `" + field.getName() + "` (" + field.getInt(null) + ") | ";
            Check.due("a row for " + field.getName(), text.contains(row), true);
        }
    }

    private static void tests(String text) throws IOException {
        Check.due("how to run the tests", text.contains("\n    .ci/run\n"), true);
        try (Stream<Path> files = Files.list(Path.of("src/test/java"))) {
            for (Path file : files.collect(Collectors.toList())) {
                String name = file.getFileName().toString().replace(".java", "");
                String told = name.endsWith("Test") ? "\n| `" + name + "` | " : "`" + name + "`";
                Check.due("it tells of " + name, text.contains(told), true);
            }
        }
    }
}
