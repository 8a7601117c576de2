import java.io.ByteArrayOutputStream;
import java.io.IOException;
import java.io.PrintStream;
import java.lang.reflect.InvocationTargetException;
import java.lang.reflect.Method;
import java.lang.reflect.Modifier;
import java.nio.charset.StandardCharsets;
import java.nio.file.Files;
import java.nio.file.Path;
import java.util.ArrayList;
import java.util.HashMap;
import java.util.List;
import java.util.Map;
import java.util.Set;
import java.util.TreeSet;
import java.util.regex.Matcher;
import java.util.regex.Pattern;

/**
 * Makes the calls that README.md shows, in their order, each held to the answer behind it.
 * It is run from the folder of the project.
 */
public final class ReadmeTest {
    private static final Path README = Path.of("README.md");
    private static final Path EXAMPLE = Path.of("src/example/java/Try.java");
    private static final Pattern MADE = Pattern.compile("Nestlimit x = new Nestlimit\\(\\);");
    /** A call, perhaps named, and behind // its answer, or what it throws, up to a colon, semicolon or comma. */
    private static final Pattern CALL =
            Pattern.compile("(?:int (\\w+) = )?x\\.(\\w+)\\(([^()]*)\\); *// (?:throws (\\w+)|([-\\w]+))(?:[:;,].*)?");

    private static final Map<String, Object> named = new HashMap<>();
    private static final Set<String> called = new TreeSet<>();
    private static final Set<String> thrown = new TreeSet<>();
    private static Nestlimit x = new Nestlimit();

    public static void main(String[] args) throws IOException, IllegalAccessException {
        List<String> blocks = new ArrayList<>();
        List<String> texts = new ArrayList<>();
        readBlocks(blocks, texts);
        Check.same("the example in README.md", Files.readString(EXAMPLE), blocks.remove(0));
        Check.same("what the example prints", texts.remove(0), printedByExample());
        Check.same("nothing else is printed there", "[]", texts.toString());
        constants();
        for (String block : blocks) {
            for (String line : block.split("\n")) {
                take(line);
            }
        }
        Check.same("the calls of the face that README.md shows", face().toString(), called.toString());
        Check.same("the exceptions that README.md shows",
                "[IllegalArgumentException, IllegalStateException, IndexOutOfBoundsException]", thrown.toString());
        Check.end("ReadmeTest");
    }

    private static void readBlocks(List<String> blocks, List<String> texts) throws IOException {
        StringBuilder block = null;
        String kind = "";
        for (String line : Files.readAllLines(README)) {
            if (block == null && line.startsWith("```")) {
                block = new StringBuilder();
                kind = line;
            } else if (block != null && line.equals("```")) {
                (kind.equals("```java") ? blocks : texts).add(block.toString());
                block = null;
            } else if (block != null) {
                block.append(line).append('\n');
            }
        }
    }

    private static String printedByExample() {
        ByteArrayOutputStream bytes = new ByteArrayOutputStream();
        PrintStream before = System.out;
        System.setOut(new PrintStream(bytes, true, StandardCharsets.UTF_8));
        Try.main(new String[0]);
        System.setOut(before);
        return bytes.toString(StandardCharsets.UTF_8).replace("\r\n", "\n");
    }

    private static void constants() throws IllegalAccessException {
        for (var field : Nestlimit.class.getFields()) {
            named.put(field.getName(), field.get(null));
        }
    }

    private static Set<String> face() {
        Set<String> names = new TreeSet<>();
        for (Method method : Nestlimit.class.getDeclaredMethods()) {
            if (Modifier.isPublic(method.getModifiers())) {
                names.add(method.getName());
            }
        }
        return names;
    }

    private static void take(String line) throws IllegalAccessException {
        Matcher call = CALL.matcher(line);
        if (MADE.matcher(line).matches()) {
            x = new Nestlimit();
        } else if (call.matches()) {
            Object got = outcome(call.group(2), call.group(3));
            String want = call.group(4) == null ? "" + valueOf(call.group(5)) : "throws " + call.group(4);
            Check.same("README.md: " + line, want, "" + got);
            if (call.group(1) != null) {
                named.put(call.group(1), got);
            }
            if (call.group(4) != null) {
                thrown.add(call.group(4));
            }
        } else {
            Check.same("README.md: " + line, "a call with its answer", "another line");
        }
    }

    private static Object outcome(String name, String arguments) throws IllegalAccessException {
        called.add(name);
        List<Object> values = new ArrayList<>();
        for (String argument : arguments.isEmpty() ? new String[0] : arguments.split(", ")) {
            values.add(valueOf(argument));
        }
        for (Method method : Nestlimit.class.getDeclaredMethods()) {
            if (method.getName().equals(name) && Modifier.isPublic(method.getModifiers())) {
                try {
                    return method.invoke(x, values.toArray());
                } catch (InvocationTargetException thrown) {
                    return "throws " + thrown.getCause().getClass().getSimpleName();
                }
            }
        }
        return "no such call";
    }

    private static Object valueOf(String text) {
        if (named.containsKey(text)) {
            return named.get(text);
        }
        if (text.equals("true") || text.equals("false")) {
            return Boolean.valueOf(text);
        }
        return Integer.valueOf(text);
    }
}
