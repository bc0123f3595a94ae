import java.io.File;
import java.io.IOException;
import java.lang.reflect.InvocationTargetException;
import java.lang.reflect.Method;
import java.lang.reflect.Modifier;
import java.nio.file.Files;
import java.nio.file.Path;
import java.util.List;
import java.util.Set;
import java.util.TreeSet;
import java.util.regex.Matcher;
import java.util.regex.Pattern;

/** What README.md shows of the class's use: its Java lines are read and called, and answer what it says. */
public final class ReadmeTest {
    private static final String NEW_OBJECT = "MessageReader reader = new MessageReader();";
    private static final Pattern CALL = Pattern.compile(
        "reader\\.(\\w+)\\(([^)]*)\\);\\s+// (?:throws )?(-?\\d+|[A-Z]\\w+)(?:[,:] .+)?");
    private static final Check CHECK = new Check("README.md");

    public static void main(String[] args) throws IOException {
        List<String> lines = Files.readAllLines(Path.of("README.md"));
        Set<String> called = new TreeSet<>();
        CHECK.sentence("what it shows (calls and their answers) holds", () -> callAll(lines, called));
        CHECK.sentence("README.md says how to use the class", () -> {
            CHECK.due("the methods that are shown", called.toString(), publicMethods().toString());
        });
        CHECK.sentence("and how to run its tests", () -> namesTheTests(String.join("\n", lines)));
        CHECK.finish();
    }

    private static void callAll(List<String> lines, Set<String> called) {
        MessageReader reader = null;
        boolean inJava = false;
        for (int i = 0; i < lines.size(); i++) {
            String line = lines.get(i);
            if (line.startsWith("```")) {
                inJava = line.equals("```java");
                reader = null;
            } else if (inJava && line.equals(NEW_OBJECT)) {
                reader = new MessageReader();
            } else if (inJava && !line.isEmpty()) {
                called.add(callOne("line " + (i + 1) + ", " + line, reader, line));
            }
        }
    }

    /** Which method it was. A line that can't be read is wrong, so that none is left out unseen. */
    private static String callOne(String what, MessageReader reader, String line) {
        Matcher parts = CALL.matcher(line);
        if (!parts.matches()) {
            CHECK.due(what, "not read", "a call and its answer");
            return "";
        }
        CHECK.due(what, answer(reader, parts.group(1), parts.group(2)), written(parts.group(3)));
        return parts.group(1);
    }

    /** The answer that is written, a constant by its number. */
    private static String written(String text) {
        switch (text) {
            case "NONE":
                return "" + MessageReader.NONE;
            case "MORE":
                return "" + MessageReader.MORE;
            case "INVALID":
                return "" + MessageReader.INVALID;
            case "LARGE":
                return "" + MessageReader.LARGE;
            case "DEEP":
                return "" + MessageReader.DEEP;
            default:
                return text;
        }
    }

    /** What the call answers, or the name of what it throws. */
    private static String answer(MessageReader reader, String name, String arguments) {
        String[] texts = arguments.isEmpty() ? new String[0] : arguments.split(", ");
        try {
            return "" + method(name).invoke(reader, numbers(method(name), texts));
        } catch (InvocationTargetException e) {
            return e.getCause().getClass().getSimpleName();
        } catch (IllegalAccessException e) {
            return "no public method";
        }
    }

    private static Method method(String name) {
        for (Method method : MessageReader.class.getMethods()) {
            if (method.getName().equals(name)) {
                return method;
            }
        }
        throw new IllegalArgumentException("no method " + name);
    }

    private static Object[] numbers(Method method, String[] texts) {
        Class<?>[] types = method.getParameterTypes();
        Object[] numbers = new Object[texts.length];
        for (int i = 0; i < texts.length; i++) {
            if (types[i] == long.class) {
                numbers[i] = Long.decode(texts[i].replace("L", ""));
            } else {
                numbers[i] = Integer.decode(texts[i]);
            }
        }
        return numbers;
    }

    private static Set<String> publicMethods() {
        Set<String> names = new TreeSet<>();
        for (Method method : MessageReader.class.getDeclaredMethods()) {
            if (Modifier.isPublic(method.getModifiers())) {
                names.add(method.getName());
            }
        }
        return names;
    }

    private static void namesTheTests(String text) {
        CHECK.due("the command", text.contains("\n    .ci/run\n") ? 1 : 0, 1);
        for (String file : new File("src/test/java").list()) {
            if (file.endsWith("Test.java")) {
                String name = file.substring(0, file.length() - ".java".length());
                CHECK.due("how often the table names " + name, text.split("`" + name + "`", -1).length - 1, 1);
            }
        }
    }
}
