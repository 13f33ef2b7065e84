import java.lang.reflect.Method;
import java.lang.reflect.Modifier;
import java.nio.file.Files;
import java.nio.file.Path;
import java.util.List;
import java.util.regex.Matcher;
import java.util.regex.Pattern;
import java.util.stream.Collectors;
import java.util.stream.Stream;

/** README.md: its example answers as it says there, and it names every call and every test. */
public final class ReadmeTest {
    private static final Checks CHECKS = new Checks();
    private static final Pattern CALL = Pattern.compile("watch\\.(\\w+)\\(([^()]*)\\);\\s*// (-?\\d+):.*");
    private static final Pattern TYPED = Pattern.compile("for .*\"([^\"]*)\"\\.toCharArray\\(\\)\\) watch\\.type\\(c\\);");

    public static void main(String[] args) throws Exception {
        String page = Files.readString(Path.of("README.md"));
        example(page);
        namesEveryCall(page);
        namesEveryTest(page);
        CHECKS.end();
    }

    private static void example(String page) throws Exception {
        Matcher block = Pattern.compile("(?s)```java\n(.*?)```").matcher(page);
        CHECKS.dueTrue("there is an example", block.find());
        String[] lines = block.group(1).split("\n");
        CHECKS.dueTrue("it makes an object first", lines[0].equals("PastAndClear watch = new PastAndClear();"));
        PastAndClear watch = new PastAndClear();
        for (int i = 1; i < lines.length; i++) {
            Matcher call = CALL.matcher(lines[i]);
            Matcher typed = TYPED.matcher(lines[i]);
            boolean isCall = call.matches();
            boolean isTyped = typed.matches();
            CHECKS.dueTrue("a line that can be tried: " + lines[i], isCall || isTyped);
            if (isCall) CHECKS.due(lines[i], answer(watch, call.group(1), call.group(2)), Long.parseLong(call.group(3)));
            if (isTyped) Checks.type(watch, typed.group(1));
        }
    }

    private static long answer(PastAndClear watch, String name, String told) throws Exception {
        Object[] numbers = told.isEmpty() ? new Object[0] : Stream.of(told.split(", ")).map(Integer::valueOf).toArray();
        Class<?>[] kinds = Stream.of(numbers).map(n -> int.class).toArray(Class<?>[]::new);
        return ((Number) PastAndClear.class.getMethod(name, kinds).invoke(watch, numbers)).longValue();
    }

    private static void namesEveryCall(String page) {
        for (Method m : PastAndClear.class.getDeclaredMethods()) {
            if (!Modifier.isPublic(m.getModifiers())) continue;
            String head = "`" + m.getName() + "(";
            int places = m.getParameterCount();
            String takes = places == 0 ? "\\)" : "\\w+(, \\w+){" + (places - 1) + "}\\)";
            boolean isNamed = Pattern.compile(Pattern.quote(head) + takes + "`").matcher(page).find();
            CHECKS.dueTrue("names " + head + " with " + places + " numbers", isNamed);
        }
    }

    private static void namesEveryTest(String page) throws Exception {
        List<String> tests;
        try (Stream<Path> files = Files.list(Path.of("src/test/java"))) {
            tests = files.map(f -> f.getFileName().toString()).filter(f -> f.endsWith("Test.java")).collect(Collectors.toList());
        }
        for (String test : tests) CHECKS.dueTrue("names " + test, page.contains("| `" + test.replace(".java", "") + "` |"));
    }
}
