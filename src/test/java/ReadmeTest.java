import java.io.IOException;
import java.lang.reflect.Method;
import java.lang.reflect.Modifier;
import java.nio.file.Files;
import java.nio.file.Path;
import java.util.HashMap;
import java.util.HashSet;
import java.util.List;
import java.util.Map;
import java.util.Set;
import java.util.regex.Matcher;
import java.util.regex.Pattern;
import java.util.stream.Stream;

/** Makes the calls of README.md, one behind the other, and compares what it says that they answer. */
public final class ReadmeTest {
    private static final Check check = new Check("ReadmeTest");
    private static final Pattern NEW = Pattern.compile("RowingEight x = new RowingEight\\(\\);");
    private static final Pattern TEXT =
        Pattern.compile("for \\(char b : \"([^\"]*)\"\\.toCharArray\\(\\)\\) x\\.type\\((\\d), b\\);.*");
    private static final Pattern CALL = Pattern.compile("x\\.(\\w+)\\(([^()]*)\\);\\s*// (-?\\d+)\\b.*");

    private static final Map<String, Method> face = new HashMap<>();
    private static final Set<String> called = new HashSet<>();
    private static RowingEight x = null;

    public static void main(String[] args) throws Exception {
        for (Method m : RowingEight.class.getMethods()) {
            if (m.getDeclaringClass() == RowingEight.class && Modifier.isPublic(m.getModifiers())) {
                face.put(m.getName(), m);
            }
        }
        List<String> readme = Files.readAllLines(Path.of("README.md"));
        example(readme);
        for (String name : face.keySet()) {
            check.holds("README.md calls " + name, called.contains(name));
        }
        tests(String.join("\n", readme));
        check.end();
    }

    private static void example(List<String> readme) throws ReflectiveOperationException {
        boolean inside = false;
        for (String line : readme) {
            if (line.startsWith("```")) {
                inside = line.equals("```java");
            } else if (inside) {
                follow(line);
            }
        }
    }

    private static void follow(String line) throws ReflectiveOperationException {
        Matcher text = TEXT.matcher(line);
        Matcher call = CALL.matcher(line);
        if (NEW.matcher(line).matches()) {
            x = new RowingEight();
        } else if (text.matches()) {
            for (char b : text.group(1).toCharArray()) {
                x.type(Integer.parseInt(text.group(2)), b);
            }
        } else if (call.matches() && face.containsKey(call.group(1))) {
            Method m = face.get(call.group(1));
            Object got = m.invoke(x, numbers(call.group(2)));
            called.add(m.getName());
            check.due(m.getName() + "(" + call.group(2) + ")", ((Number) got).longValue(), Long.parseLong(call.group(3)));
        } else {
            check.holds("this line of README.md can be followed: " + line, false);
        }
    }

    private static Object[] numbers(String arguments) {
        if (arguments.isEmpty()) {
            return new Object[0];
        }
        return Stream.of(arguments.split(", ")).map(ReadmeTest::number).toArray();
    }

    private static Object number(String argument) {
        return argument.startsWith("'") ? (int) argument.charAt(1) : Integer.parseInt(argument);
    }

    private static void tests(String readme) throws IOException {
        try (Stream<Path> files = Files.list(Path.of("src/test/java"))) {
            for (Path file : files.toList()) {
                String name = file.getFileName().toString().replace(".java", "");
                check.holds("README.md names " + name, readme.contains("`" + name + "`"));
            }
        }
    }
}
