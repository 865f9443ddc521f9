import java.lang.reflect.Method;
import java.lang.reflect.Modifier;
import java.nio.file.Files;
import java.nio.file.Path;
import java.util.ArrayList;
import java.util.List;
import java.util.regex.Matcher;
import java.util.regex.Pattern;
import java.util.stream.Stream;

/** README.md tells the class and its tests as they stand: its example answers so, and no call or test is left out. */
public final class ReadmeTest {
    private static final Pattern CALL = Pattern.compile("x\\.(\\w+)\\((.*)\\); +// (-?\\d+)(: .*)?");
    private static final Check CHECK = new Check("ReadmeTest");

    public static void main(String[] args) throws Exception {
        String readme = Files.readString(Path.of("README.md"));
        String from = "```java\n";
        int start = readme.indexOf(from);
        int end = readme.indexOf("\n```", start + from.length());
        CHECK.so("there is an example", start >= 0 && end >= 0);
        if (start >= 0 && end >= 0) {
            example(readme.substring(start + from.length(), end).split("\n"));
        }
        calls(readme);
        tests(readme);
        CHECK.end();
    }

    private static void example(String[] lines) throws Exception {
        BrokeWhere x = null;
        for (String line : lines) {
            Matcher call = CALL.matcher(line);
            if (line.equals("BrokeWhere x = new BrokeWhere();")) {
                x = new BrokeWhere();
            } else if (call.matches() && x != null) {
                CHECK.due(line, answer(x, call.group(1), call.group(2)), Long.parseLong(call.group(3)));
            } else {
                CHECK.so("a call with its answer: " + line, line.isEmpty() || line.startsWith("// "));
            }
        }
    }

    private static long answer(BrokeWhere x, String name, String written) throws Exception {
        List<Object> inputs = new ArrayList<>();
        for (String input : written.split(", ")) {
            if (!input.isEmpty()) {
                inputs.add(value(input));
            }
        }
        for (Method m : BrokeWhere.class.getMethods()) {
            if (m.getName().equals(name) && m.getParameterCount() == inputs.size()) {
                return ((Number) m.invoke(x, inputs.toArray())).longValue();
            }
        }
        throw new IllegalArgumentException("there is no call " + name);
    }

    private static Object value(String input) {
        if (input.equals("true") || input.equals("false")) {
            return input.equals("true");
        }
        return input.startsWith("'") ? (int) input.charAt(1) : Integer.parseInt(input);
    }

    private static void calls(String readme) {
        for (Method m : BrokeWhere.class.getDeclaredMethods()) {
            if (Modifier.isPublic(m.getModifiers())) {
                CHECK.so("the call " + m.getName() + " is told", readme.contains("`" + m.getName() + "`"));
            }
        }
    }

    private static void tests(String readme) throws Exception {
        try (Stream<Path> files = Files.list(Path.of("src/test/java"))) {
            for (Path file : files.toList()) {
                String name = file.getFileName().toString().replace(".java", "");
                if (name.endsWith("Test")) {
                    CHECK.so("the test " + name + " is told", readme.contains("`" + name + "`"));
                }
            }
        }
        Matcher told = Pattern.compile("`(\\w+Test)`").matcher(readme);
        while (told.find()) {
            Path file = Path.of("src/test/java/" + told.group(1) + ".java");
            CHECK.so("the test " + told.group(1) + " is there", Files.exists(file));
        }
    }
}
