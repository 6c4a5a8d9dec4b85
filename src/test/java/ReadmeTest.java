import java.io.File;
import java.io.IOException;
import java.lang.reflect.Field;
import java.lang.reflect.Method;
import java.lang.reflect.Modifier;
import java.nio.charset.StandardCharsets;
import java.nio.file.Files;
import java.nio.file.Path;
import java.util.HashMap;
import java.util.Map;
import java.util.Set;
import java.util.TreeSet;
import java.util.regex.Matcher;
import java.util.regex.Pattern;

/** What README.md says holds: its example, its calls and constants, its numbers, its tests. */
public final class ReadmeTest {
    private static final Check CHECK = new Check("ReadmeTest");
    private static final Pattern CALL =
        Pattern.compile("(?:int (\\w+) = )?archive\\.(\\w+)\\((.*)\\); +// (-?\\d+): \\S.*");
    private static final String NEW = "NestedDeeds archive = new NestedDeeds();";

    public static void main(String[] args) throws IOException, ReflectiveOperationException {
        String readme = Files.readString(Path.of("README.md"), StandardCharsets.UTF_8);
        example(readme);
        calls(readme);
        constants(readme);
        room(readme);
        tests(readme);
        CHECK.finish();
    }

    /** Each line is called, and answers what stands behind it. */
    private static void example(String readme) throws ReflectiveOperationException {
        Matcher block = Pattern.compile("```java\n(.*?)```", Pattern.DOTALL).matcher(readme);
        CHECK.due("the example is there", block.find() ? 1 : 0, 1);
        String[] lines = block.group(1).split("\n");
        CHECK.due("the example's first line", lines[0], NEW);
        NestedDeeds archive = new NestedDeeds();
        Map<String, Integer> names = new HashMap<>();
        for (int i = 1; i < lines.length; i++) {
            if (!lines[i].isEmpty()) {
                exampleLine(archive, names, lines[i]);
            }
        }
    }

    private static void exampleLine(NestedDeeds archive, Map<String, Integer> names, String line)
            throws ReflectiveOperationException {
        Matcher call = CALL.matcher(line);
        if (!call.matches()) {
            CHECK.due("a line of the example", line, "a call with its answer");
            return;
        }
        String[] words = call.group(3).isEmpty() ? new String[0] : call.group(3).split(", ");
        Object[] values = new Object[words.length];
        for (int i = 0; i < words.length; i++) {
            Integer named = names.get(words[i]);
            values[i] = named != null ? named : Integer.valueOf(words[i]);
        }
        Number got = (Number) method(call.group(2)).invoke(archive, values);
        CHECK.due("the example: " + line, got.longValue(), Long.parseLong(call.group(4)));
        if (call.group(1) != null) {
            names.put(call.group(1), got.intValue());
        }
    }

    private static Method method(String name) {
        for (Method method : NestedDeeds.class.getDeclaredMethods()) {
            if (Modifier.isPublic(method.getModifiers()) && method.getName().equals(name)) {
                return method;
            }
        }
        throw new IllegalArgumentException("README.md names a call that is not: " + name);
    }

    /** The table of calls names each one, with so many arguments as it has. */
    private static void calls(String readme) {
        Set<String> named = new TreeSet<>();
        Matcher call = Pattern.compile("`(\\w+)\\(([^`]*)\\)`").matcher(tables(readme));
        while (call.find()) {
            int arguments = call.group(2).isEmpty() ? 0 : call.group(2).split(", ").length;
            CHECK.due("arguments of " + call.group(), method(call.group(1)).getParameterCount(), arguments);
            named.add(call.group(1));
        }
        Set<String> face = new TreeSet<>();
        for (Method method : NestedDeeds.class.getDeclaredMethods()) {
            if (Modifier.isPublic(method.getModifiers())) {
                face.add(method.getName());
            }
        }
        CHECK.due("the calls", named.toString(), face.toString());
    }

    private static String tables(String readme) {
        StringBuilder rows = new StringBuilder();
        for (String line : readme.split("\n")) {
            if (line.startsWith("|")) {
                rows.append(line).append('\n');
            }
        }
        return rows.toString();
    }

    private static void constants(String readme) throws ReflectiveOperationException {
        int shown = 0;
        for (Field field : NestedDeeds.class.getDeclaredFields()) {
            if (Modifier.isPublic(field.getModifiers())) {
                String row = "\n| `" + field.getName() + "` | " + field.getInt(null) + " | ";
                CHECK.due("a row for " + field.getName(), readme.contains(row) ? 1 : 0, 1);
                shown++;
            }
        }
        CHECK.due("the constants", shown, 6);
    }

    private static void room(String readme) throws ReflectiveOperationException {
        long thousands = Math.round(RoomTest.room(new NestedDeeds())[1] / 1000.0);
        Matcher said = Pattern.compile("\\((\\d+),000 elements or so\\)").matcher(readme);
        CHECK.due("elements, in thousands", said.find() ? Long.parseLong(said.group(1)) : -1, thousands);
    }

    /** Each file of the tests is named, each test that is named is there, and the way to run them can be run. */
    private static void tests(String readme) {
        File[] files = new File("src/test/java").listFiles();
        Set<String> there = new TreeSet<>();
        for (File file : files == null ? new File[0] : files) {
            there.add(file.getName().replace(".java", ""));
        }
        for (String name : there) {
            CHECK.due(name + " is named", readme.contains("`" + name + "`") ? 1 : 0, 1);
        }
        Matcher test = Pattern.compile("`(\\w+Test)`").matcher(readme);
        while (test.find()) {
            CHECK.due(test.group(1) + " is there", there.contains(test.group(1)) ? 1 : 0, 1);
        }
        CHECK.due("the way to run them is named", readme.contains("\n    .ci/run\n") ? 1 : 0, 1);
        CHECK.due("the way to run them can be run", new File(".ci/run").canExecute() ? 1 : 0, 1);
    }
}
