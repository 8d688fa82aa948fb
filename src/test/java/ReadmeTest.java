import java.io.IOException;
import java.lang.reflect.Method;
import java.lang.reflect.Modifier;
import java.nio.file.Files;
import java.nio.file.Path;
import java.util.Arrays;
import java.util.List;
import java.util.Set;
import java.util.TreeSet;
import java.util.regex.Matcher;
import java.util.regex.Pattern;
import java.util.stream.Collectors;

/** README.md says how to use each call, and what it shows is what the class answers. */
public final class ReadmeTest {
    private static final Due DUE = new Due("README.md");
    private static final Pattern ROW = Pattern.compile("\\| `((?:\\w+ )?\\w+\\([^)]*\\))` \\| .+ \\|");
    private static final Pattern TYPED =
        Pattern.compile("for \\(char c : \"(.*)\"\\.toCharArray\\(\\)\\) order\\.type\\((\\d), c\\);");
    private static final Pattern CALL =
        Pattern.compile("order\\.(\\w+)\\((.*)\\); +// (-?\\d+|true|false)(?:: .+)?");

    private final Set<String> shown = new TreeSet<>();
    private TailoredOrder order;

    public static void main(String[] args) throws IOException {
        List<String> readme = Files.readAllLines(Path.of("README.md"));
        DUE.sentence("README.md says how to use the class (each of its calls)", () -> calls(readme));
        DUE.sentence("the example of README.md: each call, and the answer that it has", () -> example(readme));
        DUE.sentence("README.md says how to run its tests", () -> tests(readme));
        DUE.end();
    }

    private static List<Method> face() {
        return Arrays.stream(TailoredOrder.class.getDeclaredMethods())
            .filter(method -> Modifier.isPublic(method.getModifiers()))
            .collect(Collectors.toList());
    }

    private static void calls(List<String> readme) {
        Set<String> due = face().stream().map(FaceTest::signature).collect(Collectors.toCollection(TreeSet::new));
        due.add("TailoredOrder()");
        Set<String> rows = new TreeSet<>();
        for (String line : readme) {
            Matcher row = ROW.matcher(line);
            if (row.matches()) {
                // The face by its types, as a class file does not have the names of the parameters.
                rows.add(row.group(1).replaceAll(" \\w+(?=[,)])", ""));
            }
        }
        DUE.is("the calls with a row of their own", rows, due);
    }

    private static void example(List<String> readme) {
        int start = readme.indexOf("```java") + 1;
        int end = start + readme.subList(start, readme.size()).indexOf("```");
        DUE.is("there is an example", start > 0 && end > start, true);
        ReadmeTest test = new ReadmeTest();
        for (String line : readme.subList(start, end)) {
            test.follow(line);
        }
        DUE.is("the calls that the example shows", test.shown,
            face().stream().map(Method::getName).collect(Collectors.toCollection(TreeSet::new)));
    }

    private void follow(String line) {
        Matcher typed = TYPED.matcher(line);
        Matcher call = CALL.matcher(line);
        if (line.equals("TailoredOrder order = new TailoredOrder();")) {
            order = new TailoredOrder();
        } else if (typed.matches()) {
            for (char c : typed.group(1).toCharArray()) {
                DUE.is(line + " at " + c, order.type(Integer.parseInt(typed.group(2)), c), true);
            }
        } else if (call.matches()) {
            shown.add(call.group(1));
            DUE.is(line, String.valueOf(answer(call.group(1), call.group(2))), call.group(3));
        } else {
            DUE.is("a line that tells no call", line, "");
        }
    }

    private Object answer(String name, String arguments) {
        Method method = face().stream().filter(m -> m.getName().equals(name)).findFirst().orElseThrow();
        String[] parts = arguments.isEmpty() ? new String[0] : arguments.split(", ");
        Object[] values = Arrays.stream(parts).map(ReadmeTest::value).toArray();
        try {
            return method.invoke(order, values);
        } catch (ReflectiveOperationException e) {
            throw new IllegalStateException(e);
        }
    }

    private static Object value(String part) {
        if (part.startsWith("'")) {
            return part.charAt(1);
        }
        return part.equals("true") || part.equals("false") ? (Object) Boolean.valueOf(part) : Integer.valueOf(part);
    }

    private static void tests(List<String> readme) {
        DUE.is("it tells .ci/run", readme.contains(".ci/run"), true);
        try (var files = Files.list(Path.of("src/test/java"))) {
            String text = String.join("\n", readme);
            for (Path file : files.sorted().collect(Collectors.toList())) {
                String name = file.getFileName().toString().replace(".java", "");
                boolean told = text.contains("`" + name + "`") || name.startsWith("Promise");
                DUE.is("it tells " + name, told, true);
            }
        } catch (IOException e) {
            throw new IllegalStateException(e);
        }
    }
}
