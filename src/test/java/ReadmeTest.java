import java.io.File;
import java.io.IOException;
import java.lang.reflect.Method;
import java.lang.reflect.Modifier;
import java.nio.charset.StandardCharsets;
import java.nio.file.Files;
import java.nio.file.Path;
import java.util.regex.Matcher;
import java.util.regex.Pattern;

/** README.md: its example answers what it says, and it names every call of the face and every test. */
final class ReadmeTest {
    private static final Pattern EXAMPLE = Pattern.compile("(?s)```java\n(.*?)```");
    private static final Pattern TEXT = Pattern.compile("\"([^\"]*)\"\\.toCharArray\\(\\)");
    private static final Pattern CALL = Pattern.compile("family\\.(\\w+)\\(([^)]*)\\);\\s*// (-?\\d+)\\b.*");

    public static void main(String[] args) throws IOException, ReflectiveOperationException {
        String page = new String(Files.readAllBytes(Path.of("README.md")), StandardCharsets.UTF_8);
        Matcher example = EXAMPLE.matcher(page);
        Check.due("README has an example", 1, example.find() ? 1 : 0);
        Check.due("calls of the example with their answers", 8, answered(example.group(1)));
        names(page);
        Check.end("ReadmeTest");
    }

    private static int answered(String example) throws ReflectiveOperationException {
        DutyOnLeft family = new DutyOnLeft();
        int calls = 0;
        for (String line : example.split("\n")) {
            Matcher text = TEXT.matcher(line);
            Matcher call = CALL.matcher(line.trim());
            if (text.find()) {
                Check.written(family, text.group(1));
            } else if (call.matches()) {
                Check.due("README: " + line, Integer.parseInt(call.group(3)), answer(family, call.group(1), call.group(2)));
                calls++;
            }
        }
        return calls;
    }

    private static int answer(DutyOnLeft family, String name, String with) throws ReflectiveOperationException {
        String[] parts = with.isEmpty() ? new String[0] : with.split(", ");
        Object[] all = new Object[parts.length];
        Class<?>[] types = new Class<?>[parts.length];
        for (int k = 0; k < parts.length; k++) {
            boolean truth = parts[k].equals("true") || parts[k].equals("false");
            types[k] = truth ? boolean.class : int.class;
            all[k] = truth ? (Object) Boolean.valueOf(parts[k]) : (Object) Integer.valueOf(parts[k]);
        }
        return (Integer) DutyOnLeft.class.getMethod(name, types).invoke(family, all);
    }

    private static void names(String page) {
        for (Method m : DutyOnLeft.class.getDeclaredMethods()) {
            if (Modifier.isPublic(m.getModifiers())) {
                Matcher named = Pattern.compile("`" + m.getName() + "\\(([^)]*)\\)`").matcher(page);
                boolean found = named.find();
                int numbers = !found || named.group(1).isEmpty() ? 0 : named.group(1).split(", ").length;
                Check.due("README names " + m.getName() + " with all it takes", 1, found && numbers == m.getParameterCount() ? 1 : 0);
            }
        }
        String[] files = new File("src/test/java").list((where, name) -> name.endsWith("Test.java"));
        for (String file : files == null ? new String[0] : files) {
            String name = file.substring(0, file.length() - 5);
            Check.due("README names " + name, 1, page.contains("| `" + name + "` |") ? 1 : 0);
        }
    }
}
