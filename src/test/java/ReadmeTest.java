import java.io.IOException;
import java.lang.reflect.Method;
import java.lang.reflect.Modifier;
import java.nio.charset.StandardCharsets;
import java.nio.file.Files;
import java.nio.file.Path;
import java.util.List;
import java.util.regex.Matcher;
import java.util.regex.Pattern;
import java.util.stream.Collectors;
import java.util.stream.Stream;

/** README.md says how to use the class: the answers it tells are due, and it names every call and every test. */
public final class ReadmeTest {
    private static final Check CHECK = new Check("ReadmeTest");
    private static final Pattern EXAMPLE = Pattern.compile("(?s)```java\n(.*?)```");
    private static final Pattern MADE = Pattern.compile("GleanDusk x = new GleanDusk\\(\\);");
    private static final Pattern TYPED = Pattern.compile(
        "for \\(char c : \"(.*)\"\\.toCharArray\\(\\)\\) x\\.type\\(c\\);");
    private static final Pattern CALL = Pattern.compile("x\\.(\\w+)\\(([-0-9, ]*)\\); *// (-?\\d+): .*");

    private GleanDusk x;

    public static void main(String[] args) throws IOException, ReflectiveOperationException {
        String page = Files.readString(Path.of("README.md"), StandardCharsets.UTF_8);
        examples(page);
        calls(page);
        tests(page);
        CHECK.end();
    }

    private static void holds(String what, boolean so) {
        CHECK.due(what, so ? 1 : 0, 1);
    }

    private static void examples(String page) throws ReflectiveOperationException {
        int many = 0;
        Matcher example = EXAMPLE.matcher(page);
        for (; example.find(); many++) {
            ReadmeTest reader = new ReadmeTest();
            for (String line : example.group(1).split("\n")) reader.follow(line);
        }
        holds("there are examples", many > 0);
    }

    private void follow(String line) throws ReflectiveOperationException {
        Matcher typed = TYPED.matcher(line);
        Matcher call = CALL.matcher(line);
        if (MADE.matcher(line).matches()) x = new GleanDusk();
        else if (typed.matches()) for (char c : typed.group(1).toCharArray()) x.type(c);
        else if (call.matches()) CHECK.due(line, answer(call.group(1), call.group(2)), Long.parseLong(call.group(3)));
        else holds("'" + line + "' can be followed", false);
    }

    private long answer(String name, String numbers) throws ReflectiveOperationException {
        Integer[] given = numbers.isEmpty() ? new Integer[0]
            : Stream.of(numbers.split(", *")).map(Integer::valueOf).toArray(Integer[]::new);
        for (Method m : GleanDusk.class.getMethods()) {
            if (!m.getName().equals(name) || m.getParameterCount() != given.length) continue;
            return ((Number) m.invoke(x, (Object[]) given)).longValue();
        }
        throw new NoSuchMethodException(name);
    }

    /** Each call has a row of its own, with as many numbers as it takes. */
    private static void calls(String page) {
        for (Method m : GleanDusk.class.getDeclaredMethods()) {
            if (!Modifier.isPublic(m.getModifiers())) continue;
            Matcher row = Pattern.compile("(?m)^\\| `" + m.getName() + "\\(([^)`]*)\\)` \\| ..").matcher(page);
            boolean told = row.find();
            holds("a row of " + m.getName(), told);
            if (told) CHECK.due("numbers of " + m.getName(), numbers(row.group(1)), m.getParameterCount());
        }
    }

    private static int numbers(String row) {
        return row.isEmpty() ? 0 : row.split(",").length;
    }

    private static void tests(String page) throws IOException {
        List<String> names;
        try (Stream<Path> files = Files.list(Path.of("src/test/java"))) {
            names = files.map(file -> file.getFileName().toString().replace(".java", "")).collect(Collectors.toList());
        }
        for (String name : names) holds("the page names " + name, page.contains(name));
        holds("the page names .ci/run", page.contains("    .ci/run\n") && Files.isExecutable(Path.of(".ci/run")));
    }
}
