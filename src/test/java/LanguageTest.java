import java.nio.file.Files;
import java.nio.file.Path;
import java.util.List;
import java.util.regex.Matcher;
import java.util.regex.Pattern;

/** Those rules of LANGUAGE.md that can be seen in the text of the program. */
public final class LanguageTest {
    private static final Path PROGRAM = Path.of("src/main/java/PlugPins.java");
    private static final String[] RULED_OUT = {
        "throw", "throws", "try", "catch", "finally", "synchronized", "assert", "import", "package", "protected",
        "volatile", "transient", "native", "strictfp", "this", "super", "var", "yield", "equals", "hashCode", "toString",
        "System\\.out", "System\\.err", "nanoTime", "currentTimeMillis", "Thread", "Random", "Object", "double", "float"};
    private static final String[] LIBRARY = {"Math", "System", "Integer", "Long", "Arrays", "String", "StringBuilder"};
    private static final String[] LIBRARY_CALLS = {"Math.max", "Math.min", "Math.abs", "Math.floorMod", "Math.floorDiv", "System.arraycopy"};

    public static void main(String[] args) throws Exception {
        Due due = new Due("LanguageTest");
        String source = Files.readString(PROGRAM);
        String code = withoutComments(source);
        for (String word : RULED_OUT) {
            due.is("the word " + word, found(code, "\\b" + word + "\\b"), 0);
        }
        due.is("lambdas", found(code, "->"), 0);
        due.is("method references", found(code, "::"), 0);
        due.is("texts joined by +", found(code, "\"\\s*\\+[^+]|[^+]\\+\\s*\""), 0);
        due.is("signs beyond 126", found(source, "[^\\x00-\\x7e]"), 0);
        due.is("classes that are not static", found(code, "\\bclass\\b") - found(code, "private static final class\\b"), 1);
        due.is("static fields that are not final", found(code, "\\bstatic\\s+(int|long|boolean|char|byte|String)(\\[\\])?\\s+\\w+\\s*[=;]"), 0);
        due.is("more than 12 classes", found(code, "\\bclass\\b") > 12 ? 1 : 0, 0);
        libraryCalls(due, code);
        privateNames(due, code);
        lengths(due, source);
        due.end();
    }

    private static void libraryCalls(Due due, String code) {
        for (String name : LIBRARY) {
            Matcher call = Pattern.compile("\\b" + name + "\\.\\w+").matcher(code);
            while (call.find()) {
                due.is("library: " + call.group(), List.of(LIBRARY_CALLS).contains(call.group()) ? 0 : 1, 0);
            }
        }
    }

    /** No method that is not public bears the name of a public one. */
    private static void privateNames(Due due, String code) {
        Matcher open = Pattern.compile("public int (\\w+)\\(").matcher(code);
        while (open.find()) {
            String name = open.group(1);
            due.is("methods with the name " + name, found(code, "\\b(int|void|boolean|long|String|[A-Z]\\w+) " + name + "\\([^)]*\\) \\{"), 1);
        }
    }

    /** No method has more than sixty lines, and none more than seven parameters. */
    private static void lengths(Due due, String source) {
        String[] lines = source.split("\n");
        int start = -1;
        String end = "";
        for (int i = 0; i < lines.length; i++) {
            Matcher head = Pattern.compile("^( {4}| {8})\\S.*\\((.*)\\) \\{$").matcher(lines[i]);
            if (start < 0 && head.find() && !lines[i].contains(" class ")) {
                start = i;
                end = head.group(1) + "}";
                due.is("parameters of " + lines[i].trim(), head.group(2).split(",").length > 7 ? 1 : 0, 0);
            }
            if (start >= 0 && lines[i].equals(end)) {
                due.is("lines of " + lines[start].trim(), i - start + 1 > 60 ? 1 : 0, 0);
                start = -1;
            }
        }
    }

    private static int found(String text, String pattern) {
        Matcher matcher = Pattern.compile(pattern).matcher(text);
        int found = 0;
        while (matcher.find()) {
            found++;
        }
        return found;
    }

    private static String withoutComments(String source) {
        return source.replaceAll("(?s)/\\*.*?\\*/", "").replaceAll("//[^\n]*", "");
    }
}
