import java.io.File;
import java.io.IOException;
import java.lang.reflect.InvocationTargetException;
import java.lang.reflect.Method;
import java.lang.reflect.Modifier;
import java.nio.file.Files;
import java.nio.file.Path;
import java.util.List;
import java.util.regex.Matcher;
import java.util.regex.Pattern;

/** README.md's example answers as it says there, and no call and no test is left out of it. */
public final class ReadmeTest {
    private static final Pattern MAKING = Pattern.compile(
            "DrawingForms d = new DrawingForms\\((\\d+), (\\d+)\\);");
    private static final Pattern CALL = Pattern.compile(
            "d\\.(\\w+)\\(([-\\d, ]*)\\); +// ([-\\w]+).*");

    public static void main(String[] args) throws IOException {
        List<String> lines = Files.readAllLines(Path.of("README.md"));
        exampleAnswersAsItSays(lines.subList(lines.indexOf("```java") + 1, lines.size()));
        everyCallIsNamed(lines);
        everyTestIsNamed(lines);
        Check.end();
    }

    private static void exampleAnswersAsItSays(List<String> example) {
        DrawingForms d = null;
        for (String line : example.subList(0, example.indexOf("```"))) {
            Matcher making = MAKING.matcher(line);
            Matcher call = CALL.matcher(line);
            if (making.matches()) {
                d = new DrawingForms(Integer.parseInt(making.group(1)),
                        Integer.parseInt(making.group(2)));
            } else if (call.matches()) {
                // Of a call without an answer the comment only tells what it does.
                String due = call.group(1).equals("clear") ? "null" : call.group(3);
                Check.due(line, answer(d, call.group(1), call.group(2)), due);
            } else {
                Check.due("a line of the example is no call", line, "");
            }
        }
    }

    private static String answer(DrawingForms d, String name, String arguments) {
        String[] texts = arguments.isEmpty() ? new String[0] : arguments.split(", ");
        Object[] numbers = new Object[texts.length];
        Class<?>[] types = new Class<?>[texts.length];
        for (int i = 0; i < texts.length; i++) {
            numbers[i] = Integer.valueOf(texts[i]);
            types[i] = int.class;
        }
        try {
            return String.valueOf(DrawingForms.class.getMethod(name, types).invoke(d, numbers));
        } catch (InvocationTargetException e) {
            return "throws " + e.getCause().getClass().getSimpleName();
        } catch (NoSuchMethodException | IllegalAccessException e) {
            return "no such call";
        }
    }

    private static void everyCallIsNamed(List<String> lines) {
        String tables = tablesOf(lines);
        String example = String.join("\n", lines);
        for (Method m : DrawingForms.class.getDeclaredMethods()) {
            if (Modifier.isPublic(m.getModifiers())) {
                Check.due(m.getName() + " has a row", tables.contains("`" + m.getName() + "("),
                        true);
                Check.due(m.getName() + " is in the example",
                        example.contains("\nd." + m.getName() + "("), true);
            }
        }
    }

    private static String tablesOf(List<String> lines) {
        StringBuilder tables = new StringBuilder();
        for (String line : lines) {
            if (line.startsWith("|")) {
                tables.append(line).append('\n');
            }
        }
        return tables.toString();
    }

    private static void everyTestIsNamed(List<String> lines) {
        String all = String.join("\n", lines);
        File[] tests = new File("src/test/java").listFiles();
        Check.due("there are tests", tests != null && tests.length > 0, true);
        for (File test : tests == null ? new File[0] : tests) {
            Check.due(test.getName() + " is named", all.contains("`src/test/java/" + test.getName()
                    + "`"), true);
        }
    }
}
