import java.io.IOException;
import java.nio.charset.StandardCharsets;
import java.nio.file.Files;
import java.nio.file.Path;
import java.util.ArrayDeque;
import java.util.Deque;
import java.util.HashSet;
import java.util.Set;
import java.util.regex.Matcher;
import java.util.regex.Pattern;

/** The rules of ../shared/LANGUAGE.md that the text of the class shows; the rest is for the reader's eye. */
public final class LanguageTest {
    private static final int LONGEST_METHOD = 60;
    private static final int MOST_CLASSES = 12;
    private static final int MOST_PARAMETERS = 7;
    private static final String THROWN = "(IllegalState|IllegalArgument|IndexOutOfBounds|Arithmetic|"
            + "UnsupportedOperation|NoSuchElement|Runtime)Exception";
    private static final String LIBRARY = "(Math|Integer|Long)\\.\\w+|Arrays\\.(fill|copyOf|copyOfRange)"
            + "|System\\.arraycopy|List\\.of";

    public static void main(String[] args) throws IOException {
        String source = Files.readString(Path.of("src/main/java/FrostTubes.java"), StandardCharsets.ISO_8859_1);
        String code = withoutComments(source);
        absent(code);
        onlyListedLibrary(code);
        exceptions(code);
        sizes(code);
        Checks.finish("LanguageTest");
    }

    private static String withoutComments(String source) {
        return source.replaceAll("(?s)/\\*.*?\\*/", "").replaceAll("//[^\n]*", "").replaceAll("\"[^\"]*\"", "\"\"");
    }

    private static void absent(String code) {
        String[] words = {"package", "protected", "synchronized", "assert", "finally", "volatile", "native",
            "transient", "strictfp"};
        for (String word : words) {
            none("rule 1 or 6: the word " + word, "\\b" + word + "\\b", code);
        }
        none("rule 2: a method reference", "::", code);
        none("rule 2: a lambda", "\\w *-> *[^;{]*[,)]|\\) *->", code);
        none("rule 4: a function that throws by itself", "Exact\\b", code);
        none("rule 5: a static that is not final", "static (?!final)[\\w<>]+(\\[\\])? \\w+( =|;)", code);
        none("rule 5: a static block", "static *\\{", code);
        none("rule 6: an exception's text that is not written", "throw new \\w+\\([^\")]", code);
        none("rule 6: a class of exceptions", "extends \\w*(Exception|Error|Throwable)\\b", code);
        none("rule 11: texts joined by +", "\" *\\+|\\+ *\"", code);
        none("rule 13: a clock, randomness or what is around", "\\b(Random|Thread|nanoTime|currentTimeMillis|getenv"
                + "|getProperty|File|Files|Scanner|Instant|Runtime)\\b", code);
    }

    private static void onlyListedLibrary(String code) {
        Matcher imports = Pattern.compile("import ([\\w.*]+);").matcher(code);
        while (imports.find()) {
            boolean listed = imports.group(1).matches(
                    "java\\.util\\.(Arrays|ArrayList|List|Iterator|NoSuchElementException)");
            Checks.is("rule 4: import " + imports.group(1), 1, listed ? 1 : 0);
        }
        Set<String> own = new HashSet<>();
        Matcher declared = Pattern.compile("\\b(class|enum|interface|record) (\\w+)").matcher(code);
        while (declared.find()) {
            own.add(declared.group(2));
        }
        Matcher calls = Pattern.compile("\\b([A-Z][a-z]\\w*)\\.(\\w+)").matcher(code.replaceAll("import [^;]*;", ""));
        while (calls.find()) {
            boolean listed = own.contains(calls.group(1)) || calls.group().matches(LIBRARY);
            Checks.is("rule 4: " + calls.group(), 1, listed ? 1 : 0);
        }
    }

    private static void exceptions(String code) {
        Matcher thrown = Pattern.compile("\\bthrow\\b([^;]*);").matcher(code);
        while (thrown.find()) {
            boolean fine = thrown.group(1).matches(" new " + THROWN + "\\((\"\")?\\)");
            Checks.is("rule 6: thrown:" + thrown.group(1), 1, fine ? 1 : 0);
        }
        Matcher caught = Pattern.compile("\\bcatch *\\(([^)]*)\\)").matcher(code);
        while (caught.find()) {
            boolean fine = caught.group(1).matches("(final )?" + THROWN + "( *\\| *" + THROWN + ")* \\w+");
            Checks.is("rule 6: caught: " + caught.group(1), 1, fine ? 1 : 0);
        }
    }

    private static void none(String what, String pattern, String code) {
        Matcher m = Pattern.compile(pattern).matcher(code);
        Checks.same(what, "", m.find() ? m.group() : "");
    }

    private static void sizes(String code) {
        Matcher classes = Pattern.compile("\\b(class|enum|interface|record) \\w+").matcher(code);
        int count = 0;
        while (classes.find()) {
            count++;
        }
        Checks.is("rule 11: at most " + MOST_CLASSES + " classes, not " + count, 1, count <= MOST_CLASSES ? 1 : 0);
        Deque<Integer> open = new ArrayDeque<>();
        String[] lines = code.split("\n");
        for (int i = 0; i < lines.length; i++) {
            boolean method = lines[i].matches("(    ){1,2}[\\w \\[\\]]*\\(.*\\{")
                    || lines[i].matches(" {12}throws .*\\{");
            if (method) {
                open.push(i);
                int parameters = lines[i].split("\\)")[0].split(",").length;
                Checks.is("rule 11: parameters: " + lines[i], 1, parameters <= MOST_PARAMETERS ? 1 : 0);
            }
            if (!open.isEmpty() && lines[i].matches("(    ){1,2}\\}")) {
                int length = i - open.pop();
                Checks.is("rule 11: the method that ends in line " + i, 1, length <= LONGEST_METHOD ? 1 : 0);
            }
        }
    }
}
