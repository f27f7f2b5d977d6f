import java.io.IOException;
import java.lang.reflect.Field;
import java.lang.reflect.Modifier;
import java.nio.file.Files;
import java.nio.file.Path;
import java.util.ArrayDeque;
import java.util.ArrayList;
import java.util.Deque;
import java.util.List;
import java.util.Map;
import java.util.Set;
import java.util.TreeMap;
import java.util.TreeSet;
import java.util.regex.Matcher;
import java.util.regex.Pattern;

/** What a look at the text of StarLists.java can tell of LANGUAGE.md's rules; run from the project's folder. */
public final class LanguageTest {
    private static final Checks c = new Checks();
    private static final List<String> WORDS = List.of("throw", "throws", "try", "catch", "finally", "synchronized",
        "assert", "package", "protected", "volatile", "transient", "native", "strictfp", "equals", "hashCode",
        "toString", "System", "Thread", "Object", "Exception", "instanceof", "var", "yield", "record");
    private static final List<String> SIGNS = List.of("->", "::", "\"", "@");
    private static final Set<String> CONSTANTS = Set.of("int", "long", "boolean", "char", "String");
    private static final int MOST_CLASSES = 12, MOST_FIELDS = 20, MOST_LINES = 60, MOST_PARAMETERS = 7, DEEPEST = 8;

    /** A method's name, how many parameters it takes, and its body's text. */
    private record Method(String name, int parameters, String body) { }

    public static void main(String[] args) throws IOException {
        String text = withoutComments(Files.readString(Path.of("src/main/java/StarLists.java")));
        for (String word : WORDS) c.due("the word " + word, count("\\b" + word + "\\b", text), 0);
        for (String sign : SIGNS) c.due("the sign " + sign, count(Pattern.quote(sign), text), 0);
        c.due("imports", count("(?m)^import (?!java\\.util\\.Arrays;)", text), 0);
        c.due("inner classes that are not static", count("(?<!static final )(?<!public final )\\bclass\\b", text), 0);
        c.due("library calls beside Math's and Arrays.fill", count("\\bArrays\\.(?!fill)|Math\\.(?!abs|min|floor)", text), 0);
        classesAreFew();
        List<Method> methods = methodsOf(text);
        c.due("the methods were looked at", methods.size() > 50 ? 1 : 0, 1);
        methodsAreShort(methods);
        callsMakeNothing(methods);
        callsGoDownEightLevels(methods);
        c.end("LanguageTest");
    }

    private static String withoutComments(String text) {
        return text.replaceAll("(?s)/\\*.*?\\*/", "").replaceAll("//.*", "");
    }

    private static int count(String pattern, String text) {
        return found(pattern, text).size();
    }

    /** What the pattern's first group, or all of it, matches in the text. */
    private static List<String> found(String pattern, String text) {
        List<String> all = new ArrayList<>();
        Matcher matcher = Pattern.compile(pattern).matcher(text);
        while (matcher.find()) all.add(matcher.group(Math.min(1, matcher.groupCount())));
        return all;
    }

    private static void classesAreFew() {
        List<Class<?>> all = new ArrayList<>(List.of(StarLists.class.getDeclaredClasses()));
        all.add(StarLists.class);
        c.due("classes beyond twelve", Math.max(0, all.size() - MOST_CLASSES), 0);
        for (Class<?> one : all) {
            int held = 0;
            for (Field field : one.getDeclaredFields()) {
                if (Modifier.isStatic(field.getModifiers())) constant(one, field);
                else held++;
            }
            c.due("fields beyond twenty of " + one.getName(), Math.max(0, held - MOST_FIELDS), 0);
        }
    }

    private static void constant(Class<?> one, Field field) {
        String name = one.getName() + "." + field.getName();
        c.due(name + " is final", Modifier.isFinal(field.getModifiers()) ? 1 : 0, 1);
        c.due(name + " is a constant", CONSTANTS.contains(field.getType().getSimpleName()) ? 1 : 0, 1);
    }

    /** A method begins at a line that ends with ") {" by four or eight spaces, and ends at its brace. */
    private static List<Method> methodsOf(String text) {
        List<Method> all = new ArrayList<>();
        String form = "(?ms)^( {4}| {8})(?:[\\w\\[\\]]+ )*(\\w+)\\(([^)]*)\\) \\{$(.*?)^\\1\\}";
        Matcher method = Pattern.compile(form).matcher(text);
        while (method.find()) {
            String taken = method.group(3);
            all.add(new Method(method.group(2), taken.isEmpty() ? 0 : taken.split(",").length, method.group(4)));
        }
        return all;
    }

    private static void methodsAreShort(List<Method> methods) {
        for (Method method : methods) {
            c.due("lines beyond sixty of " + method.name, Math.max(0, count("\n", method.body) - MOST_LINES), 0);
            c.due("parameters beyond seven of " + method.name, Math.max(0, method.parameters - MOST_PARAMETERS), 0);
        }
    }

    /** All calls of a run live in one room, so objects and arrays are made with the object alone. */
    private static void callsMakeNothing(List<Method> methods) {
        for (Method method : methods) {
            if (Character.isUpperCase(method.name.charAt(0))) continue;
            c.due("what " + method.name + " makes", count("\\bnew\\b|\\bclone\\b", method.body), 0);
        }
    }

    /** Methods of one name are held for one, so the depth may come out too great, but never too small. */
    private static void callsGoDownEightLevels(List<Method> methods) {
        Map<String, Set<String>> calls = new TreeMap<>();
        for (Method method : methods) {
            Set<String> called = calls.computeIfAbsent(method.name, name -> new TreeSet<>());
            called.addAll(found("\\b(\\w+)\\(", method.body));
        }
        for (String name : calls.keySet()) {
            int depth = depth(name, calls, new ArrayDeque<>());
            c.due("levels beyond eight from " + name, Math.max(0, depth - DEEPEST), 0);
        }
        c.due("the levels were looked at", depth("tree", calls, new ArrayDeque<>()) > 4 ? 1 : 0, 1);
    }

    private static int depth(String name, Map<String, Set<String>> calls, Deque<String> open) {
        if (open.contains(name)) {
            c.due(name + " calls itself", 1, 0);
            return 0;
        }
        open.push(name);
        int below = 0;
        for (String called : calls.getOrDefault(name, Set.of())) below = Math.max(below, depth(called, calls, open));
        open.pop();
        return below + 1;
    }
}
