import java.io.IOException;
import java.nio.file.Files;
import java.nio.file.Path;
import java.util.List;
import java.util.regex.Matcher;
import java.util.regex.Pattern;

/** What a look at the text of StarLists.java can tell of LANGUAGE.md's rules; run from the project's folder. */
public final class LanguageTest {
    private static final Checks c = new Checks();
    private static final List<String> WORDS = List.of("throw", "throws", "try", "catch", "finally", "synchronized",
        "assert", "package", "protected", "volatile", "transient", "native", "strictfp", "equals", "hashCode",
        "toString", "System", "Thread", "Object", "Exception", "instanceof", "var", "yield", "record");
    private static final List<String> SIGNS = List.of("->", "::", "\"", "@");

    public static void main(String[] args) throws IOException {
        String text = withoutComments(Files.readString(Path.of("src/main/java/StarLists.java")));
        for (String word : WORDS) c.due("the word " + word, count("\\b" + word + "\\b", text), 0);
        for (String sign : SIGNS) c.due("the sign " + sign, count(Pattern.quote(sign), text), 0);
        c.due("imports", count("(?m)^import (?!java\\.util\\.Arrays;)", text), 0);
        c.due("classes beyond twelve", Math.max(0, count("\\bclass\\b", text) - 12), 0);
        c.due("inner classes that are not static", count("(?<!static final )(?<!public final )\\bclass\\b", text), 0);
        c.due("static fields that are not final", count("\\bstatic (?!final|int|long|boolean)", text), 0);
        c.due("library calls beside Math's and Arrays.fill", count("\\bArrays\\.(?!fill)|Math\\.(?!abs|min|floor)", text), 0);
        methodsAreShort(text);
        c.end("LanguageTest");
    }

    private static String withoutComments(String text) {
        return text.replaceAll("(?s)/\\*.*?\\*/", "").replaceAll("//.*", "");
    }

    private static int count(String pattern, String text) {
        Matcher matcher = Pattern.compile(pattern).matcher(text);
        int found = 0;
        while (matcher.find()) found++;
        return found;
    }

    /** A method begins at a line that ends with ") {" by four or eight spaces, and ends at its brace. */
    private static void methodsAreShort(String text) {
        Matcher method = Pattern.compile("(?ms)^( {4}| {8})\\w[^;{}=]*\\(([^)]*)\\) \\{$(.*?)^\\1\\}").matcher(text);
        int methods = 0;
        while (method.find()) {
            methods++;
            c.due("lines beyond sixty", Math.max(0, count("\n", method.group(3)) - 60), 0);
            c.due("parameters beyond seven", Math.max(0, count(",", method.group(2)) - 6), 0);
        }
        c.due("the methods were looked at", methods > 50 ? 1 : 0, 1);
    }
}
