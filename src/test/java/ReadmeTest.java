import java.io.IOException;
import java.lang.reflect.InvocationTargetException;
import java.lang.reflect.Method;
import java.nio.file.Files;
import java.nio.file.Path;
import java.util.Arrays;
import java.util.List;
import java.util.TreeSet;
import java.util.regex.Matcher;
import java.util.regex.Pattern;
import java.util.stream.Collectors;
import java.util.stream.Stream;

/** What README.md says: its run of calls is made on one object; the tests that it names are those that there are. */
public final class ReadmeTest {
    private static final Pattern CALL = Pattern.compile(" {4}x\\.(\\w+)\\(([^)]*)\\); +// (throws \\w+|-?\\d+).*");

    public static void main(String[] args) throws Exception {
        List<String> lines = Files.readAllLines(Path.of("README.md"));
        callsAnswerAsTold(lines);
        testsAreNamed(String.join("\n", lines));
        Checks.finish("ReadmeTest");
    }

    private static void callsAnswerAsTold(List<String> lines) throws Exception {
        FrostTubes x = new FrostTubes();
        TreeSet<String> made = new TreeSet<>();
        for (String line : lines) {
            Matcher call = CALL.matcher(line);
            if (call.matches()) {
                made.add(call.group(1));
                Checks.same("README:" + line, call.group(3), answer(x, call.group(1), call.group(2)));
            } else {
                Checks.is("README: a call without its answer:" + line, 0, line.startsWith("    x.") ? 1 : 0);
            }
        }
        TreeSet<String> face = new TreeSet<>();
        for (Method m : FrostTubes.class.getMethods()) {
            if (m.getDeclaringClass() == FrostTubes.class) {
                face.add(m.getName());
            }
        }
        Checks.same("README shows each method", face.toString(), made.toString());
    }

    private static String answer(FrostTubes x, String name, String list) throws Exception {
        String[] told = list.isEmpty() ? new String[0] : list.split(", ");
        Method method = Arrays.stream(FrostTubes.class.getMethods())
                .filter(m -> m.getName().equals(name) && m.getParameterCount() == told.length)
                .findFirst().orElseThrow();
        Object[] values = new Object[told.length];
        for (int i = 0; i < told.length; i++) {
            boolean wide = method.getParameterTypes()[i] == long.class;
            values[i] = wide ? (Object) value(told[i]) : (Object) Math.toIntExact(value(told[i]));
        }
        try {
            return method.invoke(x, values).toString();
        } catch (InvocationTargetException e) {
            return "throws " + e.getCause().getClass().getSimpleName();
        }
    }

    private static long value(String told) {
        return told.startsWith("'") ? told.charAt(1) : Long.parseLong(told.replace("L", ""));
    }

    private static void testsAreNamed(String page) throws IOException {
        TreeSet<String> named = new TreeSet<>();
        Matcher word = Pattern.compile("`(\\w+Test)`").matcher(page);
        while (word.find()) {
            named.add(word.group(1));
        }
        Checks.is("README names the tests of the edges", 1, page.contains("`*EdgesTest`") ? 1 : 0);
        try (Stream<Path> files = Files.list(Path.of("src/test/java"))) {
            String there = files.map(file -> file.getFileName().toString().replace(".java", ""))
                    .filter(name -> name.endsWith("Test") && !name.endsWith("EdgesTest"))
                    .collect(Collectors.toCollection(TreeSet::new)).toString();
            Checks.same("README names each test", there, named.toString());
        }
    }
}
