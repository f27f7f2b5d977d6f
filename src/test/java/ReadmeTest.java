import java.io.IOException;
import java.lang.reflect.Method;
import java.lang.reflect.Modifier;
import java.nio.file.Files;
import java.nio.file.Path;
import java.util.ArrayList;
import java.util.Arrays;
import java.util.List;
import java.util.Map;
import java.util.Set;
import java.util.TreeMap;
import java.util.TreeSet;
import java.util.regex.Matcher;
import java.util.regex.Pattern;
import java.util.stream.Stream;

/** What README.md shows holds: its example, its tables of calls and of tests; run from the project's folder. */
public final class ReadmeTest {
    private static final Pattern EXAMPLE = Pattern.compile("(?m)^x\\.(\\w+)\\(([-\\d, ]*)\\); *// (-?\\d+)(?:$|:)");
    private static final Pattern ROW = Pattern.compile("(?m)^\\| \\d+ \\| `(\\w+)\\(([^)]*)\\)` \\|");
    private static final Checks c = new Checks();

    public static void main(String[] args) throws IOException, ReflectiveOperationException {
        String text = Files.readString(Path.of("README.md"));
        Map<String, Method> face = face();
        c.due("calls on the face", face.size(), 23);
        exampleHolds(text, face);
        callsAreTold(text, face);
        testsAreTold(text);
        c.end("ReadmeTest");
    }

    private static Map<String, Method> face() {
        Map<String, Method> face = new TreeMap<>();
        for (Method method : StarLists.class.getDeclaredMethods()) {
            if (Modifier.isPublic(method.getModifiers())) face.put(method.getName(), method);
        }
        return face;
    }

    private static Object[] numbers(String list) {
        if (list.isEmpty()) return new Object[0];
        return Arrays.stream(list.split(", ")).map(Integer::valueOf).toArray();
    }

    /** The example's lines are run one behind the other on one object, and none of the calls is left out. */
    private static void exampleHolds(String text, Map<String, Method> face) throws ReflectiveOperationException {
        StarLists x = new StarLists();
        Set<String> shown = new TreeSet<>();
        Matcher line = EXAMPLE.matcher(text);
        int lines = 0;
        while (line.find()) {
            lines++;
            shown.add(line.group(1));
            Object got = face.get(line.group(1)).invoke(x, numbers(line.group(2)));
            c.due(line.group(), (Integer) got, Integer.parseInt(line.group(3)));
        }
        Matcher all = Pattern.compile("(?m)^x\\.").matcher(text);
        c.due("lines that were run", lines, all.results().count());
        c.due("the example shows " + shown, shown.equals(face.keySet()) ? 1 : 0, 1);
    }

    private static void callsAreTold(String text, Map<String, Method> face) {
        List<String> told = new ArrayList<>();
        Matcher row = ROW.matcher(text);
        while (row.find()) {
            told.add(row.group(1));
            int parameters = row.group(2).isEmpty() ? 0 : row.group(2).split(", ").length;
            Method method = face.get(row.group(1));
            c.due("parameters of " + row.group(1), parameters, method == null ? -1 : method.getParameterCount());
        }
        c.due("rows of calls", told.size(), face.size());
        c.due("the table tells " + told, new TreeSet<>(told).equals(face.keySet()) ? 1 : 0, 1);
    }

    private static void testsAreTold(String text) throws IOException {
        try (Stream<Path> files = Files.list(Path.of("src/test/java"))) {
            for (Path file : files.sorted().toList()) {
                String name = file.getFileName().toString().replace(".java", "");
                if (name.endsWith("Test")) c.due(name + " is told", text.contains("| `" + name + "` |") ? 1 : 0, 1);
            }
        }
    }
}
