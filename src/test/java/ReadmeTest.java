import java.io.File;
import java.io.IOException;
import java.lang.reflect.Method;
import java.lang.reflect.Modifier;
import java.nio.file.Files;
import java.nio.file.Path;
import java.util.List;
import java.util.regex.Matcher;
import java.util.regex.Pattern;

/** README.md keeps up with the class: its example answers as it tells, and it names every call and every test. */
public final class ReadmeTest {
    private static final Pattern CALL = Pattern.compile("lister\\.(\\w+)\\((.*?)\\);\\s*// (-?\\w+).*");

    public static void main(String[] args) throws IOException, ReflectiveOperationException {
        List<String> lines = Files.readAllLines(Path.of("README.md"));
        example(lines);
        namesEachCall(lines);
        namesEachTest(String.join("\n", lines));
        Check.end();
    }

    private static void example(List<String> lines) throws ReflectiveOperationException {
        int begin = lines.indexOf("```java");
        Check.due("the example's first line", lines.get(begin + 1), "CodeLister lister = new CodeLister();");
        CodeLister lister = new CodeLister();
        int calls = 0;
        for (int k = begin + 2; !lines.get(k).equals("```"); k++) {
            Matcher call = CALL.matcher(lines.get(k));
            Check.due("a call with its answer: " + lines.get(k), call.matches(), true);
            if (call.matches()) {
                Check.due(lines.get(k), answer(lister, call.group(1), call.group(2)), call.group(3));
                calls++;
            }
        }
        Check.due("calls in the example", calls > 0, true);
    }

    private static String answer(CodeLister lister, String name, String arguments) throws ReflectiveOperationException {
        for (Method m : CodeLister.class.getMethods()) {
            if (m.getName().equals(name) && m.getDeclaringClass() == CodeLister.class) {
                return String.valueOf(m.invoke(lister, numbers(arguments)));
            }
        }
        return "no such call";
    }

    private static Object[] numbers(String arguments) {
        if (arguments.isEmpty()) {
            return new Object[0];
        }
        String[] parts = arguments.split(", ");
        Object[] numbers = new Object[parts.length];
        for (int k = 0; k < parts.length; k++) {
            numbers[k] = Long.decode(parts[k]).intValue();
        }
        return numbers;
    }

    private static void namesEachCall(List<String> lines) {
        for (Method m : CodeLister.class.getDeclaredMethods()) {
            if (Modifier.isPublic(m.getModifiers())) {
                boolean named = lines.stream().anyMatch(line -> line.startsWith("| `" + m.getName() + "("));
                Check.due("README.md has a row for " + m.getName(), named, true);
            }
        }
    }

    private static void namesEachTest(String readme) {
        for (String file : new File("src/test/java").list()) {
            String name = file.replace(".java", "");
            Check.due("README.md names " + name, readme.contains("`" + file + "`") || readme.contains("`" + name + "`"), true);
        }
    }
}
