import java.io.IOException;
import java.nio.charset.StandardCharsets;
import java.nio.file.Files;
import java.nio.file.Path;
import java.util.ArrayDeque;
import java.util.Deque;
import java.util.regex.Matcher;
import java.util.regex.Pattern;

/** The rules of ../shared/LANGUAGE.md that the text of the class shows; the rest is for the reader's eye. */
public final class LanguageTest {
    private static final int LONGEST_METHOD = 60;
    private static final int MOST_CLASSES = 12;
    private static final int MOST_PARAMETERS = 7;

    public static void main(String[] args) throws IOException {
        String source = Files.readString(Path.of("src/main/java/FrostTubes.java"), StandardCharsets.ISO_8859_1);
        String code = withoutComments(source);
        absent(code);
        onlyListedLibrary(code);
        exceptions(code);
        sizes(code);
        Checks.finish("LanguageTest");
    }

    private static String withoutComments(String source) {
        return source.replaceAll("(?s)/\\*.*?\\*/", "").replaceAll("//[^\n]*", "").replaceAll("\"[^\"]*\"", "\"\"");
    }

    private static void absent(String code) {
        String[] words = {"package", "protected", "synchronized", "assert", "finally", "try", "catch", "instanceof",
            "record", "volatile", "native", "transient", "double", "float", "var", "yield"};
        for (String word : words) {
            none("the word " + word, "\\b" + word + "\\b", code);
        }
        none("a lambda", "->", code);
        none("a method reference", "::", code);
        none("texts joined by +", "\" *\\+|\\+ *\"", code);
        none("a function that throws by itself", "Exact\\b", code);
        none("a static that is not final", "static (?!final)\\w+(\\[\\])? \\w+( =|;)", code);
        none("an array of objects of two dimensions", "[A-Z]\\w+\\[\\]\\[\\]", code);
        none("a class inside that is not static", "\\n    (private )?(final )?class", code);
    }

    private static void onlyListedLibrary(String code) {
        Matcher imports = Pattern.compile("import ([\\w.]+);").matcher(code);
        while (imports.find()) {
            Checks.same("import", "java.util.Arrays", imports.group(1));
        }
        Matcher calls = Pattern.compile("\\b([A-Z][a-z]\\w*)\\.(\\w+)").matcher(code.replaceAll("import [^;]*;", ""));
        while (calls.find()) {
            String call = calls.group();
            boolean listed = call.matches("Math\\.(min|max|abs)|Arrays\\.fill|System\\.arraycopy"
                    + "|Ground\\.KEY_DAY");
            Checks.is("listed: " + call, 1, listed ? 1 : 0);
        }
    }

    private static void exceptions(String code) {
        Matcher thrown = Pattern.compile("throw\\b([^;]*);").matcher(code);
        while (thrown.find()) {
            boolean fine = thrown.group(1).matches(
                    " new (IndexOutOfBounds|IllegalArgument|IllegalState)Exception\\(\"\"\\)");
            Checks.is("thrown:" + thrown.group(1), 1, fine ? 1 : 0);
        }
    }

    private static void none(String what, String pattern, String code) {
        Matcher m = Pattern.compile(pattern).matcher(code);
        Checks.same("no " + what, "", m.find() ? m.group() : "");
    }

    private static void sizes(String code) {
        Matcher classes = Pattern.compile("\\b(class|enum|interface) \\w+").matcher(code);
        int count = 0;
        while (classes.find()) {
            count++;
        }
        Checks.is("at most " + MOST_CLASSES + " classes, not " + count, 1, count <= MOST_CLASSES ? 1 : 0);
        Deque<Integer> open = new ArrayDeque<>();
        String[] lines = code.split("\n");
        for (int i = 0; i < lines.length; i++) {
            boolean method = lines[i].matches("(    ){1,2}[\\w ]*\\(.*\\{") || lines[i].matches(" {12}throws .*\\{");
            if (method) {
                open.push(i);
                int parameters = lines[i].split(",").length;
                Checks.is("parameters: " + lines[i], 1, parameters <= MOST_PARAMETERS ? 1 : 0);
            }
            if (!open.isEmpty() && lines[i].matches("(    ){1,2}\\}")) {
                int length = i - open.pop();
                Checks.is("the method that ends in line " + i + " is short", 1, length <= LONGEST_METHOD ? 1 : 0);
            }
        }
    }
}
