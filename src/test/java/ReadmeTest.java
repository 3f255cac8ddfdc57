import java.io.IOException;
import java.lang.reflect.Field;
import java.lang.reflect.Method;
import java.lang.reflect.Modifier;
import java.net.URL;
import java.net.URLClassLoader;
import java.nio.file.Files;
import java.nio.file.Path;
import java.util.ArrayList;
import java.util.List;
import java.util.TreeSet;
import java.util.regex.MatchResult;
import java.util.regex.Pattern;
import java.util.stream.Collectors;
import java.util.stream.Stream;
import javax.tools.ToolProvider;

/** What README.md shows is so: its calls and their answers, its constants, its table of tests. */
public final class ReadmeTest {
    private static final Due DUE = new Due("readme");
    private static final Pattern CODE = Pattern.compile("(?s)```java\n(.*?)```");
    private static final Pattern SHOWN = Pattern.compile("(?m)^(x\\.(\\w+)\\(.*?\\)); +// (-?\\d+)(: .*)?$");

    public static void main(String[] args) throws IOException, ReflectiveOperationException {
        String readme = Files.readString(Path.of("README.md"));
        List<MatchResult> blocks = found(CODE, readme);
        DUE.is("blocks of Java", blocks.size(), 1);
        String code = blocks.get(0).group(1);
        checkAnswers(code);
        checkAllCallsAreShown(code);
        checkConstants(readme);
        checkTable(readme);
        DUE.end();
    }

    private static List<MatchResult> found(Pattern pattern, String text) {
        return pattern.matcher(text).results().collect(Collectors.toList());
    }

    private static void checkAnswers(String code) throws IOException, ReflectiveOperationException {
        List<MatchResult> shown = found(SHOWN, code);
        DUE.is("calls without an answer", found(Pattern.compile("(?m)^x\\."), code).size() - shown.size(), 0);
        List<Long> got = answers(code);
        for (int i = 0; i < shown.size(); i++) {
            DUE.is(shown.get(i).group(1), got.get(i), Long.parseLong(shown.get(i).group(3)));
        }
    }

    /** The page's code, as it stands there, compiled and run; only that each answer is collected. */
    private static List<Long> answers(String code) throws IOException, ReflectiveOperationException {
        Path place = Files.createDirectories(Path.of("build", "readme"));
        Path source = place.resolve("Shown.java");
        Files.writeString(source, "public class Shown { public static java.util.List<Long> answers() {\n"
                + "java.util.List<Long> got = new java.util.ArrayList<>();\n"
                + SHOWN.matcher(code).replaceAll("got.add((long) $1);") + "return got; } }\n");
        int failed = ToolProvider.getSystemJavaCompiler().run(null, null, null, "-d", place.toString(),
                "-cp", System.getProperty("java.class.path"), source.toString());
        DUE.is("the code compiles", failed, 0);
        List<Long> got = new ArrayList<>();
        try (URLClassLoader loader = new URLClassLoader(new URL[] {place.toUri().toURL()})) {
            Object made = loader.loadClass("Shown").getMethod("answers").invoke(null);
            for (Object answer : (List<?>) made) {
                got.add((Long) answer);
            }
        }
        return got;
    }

    private static void checkAllCallsAreShown(String code) {
        for (Method m : PillowCourt.class.getDeclaredMethods()) {
            if (Modifier.isPublic(m.getModifiers())) {
                DUE.is(m.getName() + " is shown", code.contains("x." + m.getName() + "(") ? 1 : 0, 1);
            }
        }
    }

    private static void checkConstants(String readme) throws ReflectiveOperationException {
        TreeSet<String> names = new TreeSet<>();
        for (MatchResult m : found(Pattern.compile("`([A-Z]+)` \\((-\\d+)"), readme)) {
            names.add(m.group(1));
            Field constant = PillowCourt.class.getField(m.group(1));
            DUE.is(m.group(1), Long.parseLong(m.group(2)), constant.getInt(null));
        }
        DUE.is("constants", names.toString(), "[BAD, FULL, NO, NONE, STATE]");
    }

    private static void checkTable(String readme) throws IOException {
        TreeSet<String> told = new TreeSet<>();
        for (MatchResult m : found(Pattern.compile("(?m)^\\| (\\w+Test) \\|"), readme)) {
            told.add(m.group(1));
        }
        TreeSet<String> present = new TreeSet<>();
        try (Stream<Path> files = Files.list(Path.of("src/test/java"))) {
            files.map(f -> f.getFileName().toString()).filter(f -> f.endsWith("Test.java"))
                    .forEach(f -> present.add(f.replace(".java", "")));
        }
        DUE.is("tests in the table", told.toString(), present.toString());
    }
}
