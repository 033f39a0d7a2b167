import java.io.IOException;
import java.lang.reflect.Method;
import java.lang.reflect.Modifier;
import java.net.URL;
import java.net.URLClassLoader;
import java.nio.file.DirectoryStream;
import java.nio.file.Files;
import java.nio.file.Path;
import java.util.List;
import java.util.TreeSet;
import java.util.function.Supplier;
import java.util.regex.Matcher;
import java.util.regex.Pattern;
import javax.tools.JavaCompiler;
import javax.tools.ToolProvider;

/** README.md: the calls of its example answer as it says, all calls are shown there, and all tests are told of. */
public final class ReadmeTest {
    private static final Path README = Path.of("README.md");
    private static final Path TESTS = Path.of("src/test/java");
    private static final String NOTHING = "nothing";
    /** A call of the example, kept in a variable or not, with what README.md says of it. */
    private static final Pattern CALL = Pattern.compile("(?:int (\\w+) = )?(x\\.(\\w+)\\(.*\\)); +// (.+)");
    private static final Pattern ANSWER = Pattern.compile("(-?\\d+|true|false)(:.*)?");
    private static final Pattern THROWS = Pattern.compile("throws (\\w+)(:.*)?");

    private static int answersAsked = 0;

    public static void main(String[] args) throws IOException, ReflectiveOperationException {
        String readme = Files.readString(README);
        List<String> example = block(readme, "java").lines().toList();
        everyCallIsShown(example);
        everyTestIsTold(readme);
        makeTheCalls(example);
        Check.finish();
    }

    /** What the example calls to have an answer compared: so it is public. */
    public static void asks(String line, Supplier<Object> call, String want) {
        answersAsked++;
        String got;
        try {
            got = String.valueOf(call.get());
        } catch (RuntimeException e) {
            got = e.getClass().getSimpleName();
        }
        Check.due(line, got, want);
    }

    private static String block(String readme, String language) {
        String opening = "```" + language + "\n";
        int start = readme.indexOf(opening) + opening.length();
        Check.yes("README.md has an example", start >= opening.length());
        return readme.substring(start, readme.indexOf("```", start));
    }

    private static void everyCallIsShown(List<String> example) {
        Check.says("README.md", "says how to use the class");
        TreeSet<String> face = new TreeSet<>();
        for (Method method : StickerFoundry.class.getDeclaredMethods()) {
            if (Modifier.isPublic(method.getModifiers())) {
                face.add(method.getName());
            }
        }
        TreeSet<String> shown = new TreeSet<>();
        for (String line : example) {
            Matcher call = CALL.matcher(line);
            if (call.matches()) {
                shown.add(call.group(3));
            }
        }
        Check.due("the calls that it shows", shown, face);
    }

    private static void everyTestIsTold(String readme) throws IOException {
        Check.says("README.md", "says how to run its tests");
        Check.yes("it names .ci/run", readme.contains("`.ci/run`"));
        try (DirectoryStream<Path> files = Files.newDirectoryStream(TESTS, "*Test.java")) {
            for (Path file : files) {
                String name = file.getFileName().toString().replace(".java", "");
                Check.yes("it tells of " + name, readme.contains("| " + name + " |"));
            }
        }
    }

    /** The example is compiled as it stands, but for its calls, which are handed to asks() with what is due. */
    private static void makeTheCalls(List<String> example) throws IOException, ReflectiveOperationException {
        Check.says("README.md", "the calls of the example answer as it says");
        StringBuilder body = new StringBuilder();
        int calls = 0;
        for (String line : example) {
            Matcher call = CALL.matcher(line);
            body.append(call.matches() ? comparison(call) : line).append("\n");
            calls += call.matches() ? 1 : 0;
        }
        Path folder = Files.createTempDirectory("readme");
        Path source = folder.resolve("Example.java");
        Files.writeString(source, "public final class Example { public static void run() {\n" + body + "} }\n");
        compile(source, folder);
        try (URLClassLoader loader = new URLClassLoader(new URL[] {folder.toUri().toURL()})) {
            loader.loadClass("Example").getMethod("run").invoke(null);
        }
        Files.delete(folder.resolve("Example.class"));
        Files.delete(source);
        Files.delete(folder);
        Check.due("calls made", answersAsked, calls);
    }

    private static void compile(Path source, Path folder) {
        JavaCompiler javac = ToolProvider.getSystemJavaCompiler();
        String classes = System.getProperty("java.class.path");
        int result = javac.run(null, null, null, "--release", "17", "-cp", classes, "-d", folder.toString(),
            source.toString());
        Check.due("javac of the example", result, 0);
    }

    private static String comparison(Matcher call) {
        String variable = call.group(1);
        String code = call.group(2);
        boolean answers = !returnsNothing(call.group(3));
        String want = due(code, answers, call.group(4));
        String asked = answers ? code : "{ " + code + "; return \"" + NOTHING + "\"; }";
        if (variable != null) {
            return "int " + variable + " = " + code + "; " + asking(code, variable, want);
        }
        return asking(code, asked, want);
    }

    private static String asking(String code, String asked, String want) {
        return "ReadmeTest.asks(\"" + code + "\", () -> " + asked + ", \"" + want + "\");";
    }

    private static String due(String code, boolean answers, String words) {
        Matcher answer = ANSWER.matcher(words);
        Matcher thrown = THROWS.matcher(words);
        if (thrown.matches()) {
            return thrown.group(1);
        }
        Check.due("README.md has an answer to " + code, answer.matches(), answers);
        return answer.matches() ? answer.group(1) : NOTHING;
    }

    private static boolean returnsNothing(String name) {
        for (Method method : StickerFoundry.class.getDeclaredMethods()) {
            if (method.getName().equals(name)) {
                return method.getReturnType() == void.class;
            }
        }
        return false;
    }
}
