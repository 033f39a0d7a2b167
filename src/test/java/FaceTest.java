import java.io.IOException;
import java.lang.reflect.Constructor;
import java.lang.reflect.Field;
import java.lang.reflect.Method;
import java.lang.reflect.Modifier;
import java.nio.file.Files;
import java.nio.file.Path;
import java.util.ArrayList;
import java.util.Arrays;
import java.util.List;
import java.util.TreeSet;
import java.util.regex.Pattern;

/** The public face of the document, and those rules of LANGUAGE.md that can be seen in the class or its text. */
public final class FaceTest {
    private static final String[] FACE = {
        "boolean cut(int)",
        "boolean inOrbit(int, int) IndexOutOfBoundsException",
        "boolean reachable()",
        "boolean stickers(int)",
        "boolean type(long, int)",
        "int atDistance(int) UnsupportedOperationException",
        "int block(int, int) IndexOutOfBoundsException",
        "int character(int)",
        "int diameter() UnsupportedOperationException",
        "int image(int, int) IndexOutOfBoundsException",
        "int orbit(int) IndexOutOfBoundsException",
        "int place(int) IndexOutOfBoundsException",
        "int solution(int)",
        "int solve() UnsupportedOperationException IllegalStateException",
        "int turn() IllegalArgumentException IndexOutOfBoundsException IllegalStateException "
            + "UnsupportedOperationException",
        "int turns()",
        "int within(int) IllegalArgumentException",
        "int write(int) IndexOutOfBoundsException",
        "long order()",
        "long rank() IllegalStateException",
        "void move(int) IndexOutOfBoundsException",
        "void reset()",
        "void swap(int, int) IndexOutOfBoundsException",
        "void unrank(long) NoSuchElementException",
    };
    /** What no line has, comments apart: the rule forbids it, or allows it only in ways that a test cannot see. */
    private static final String[][] FORBIDDEN = {
        {"1", "^package|\\bprotected\\b"},
        {"2", "->|::"},
        {"3", "\\b(double|float|var|Object)\\b"},
        {"4", "Exact\\(|\\bMath\\.(?!max|min)|\\bArrays\\.(?!fill)|\\bSystem\\.(?!arraycopy)|\\b(Long|Integer)\\."},
        {"5", "\\bstatic \\{"},
        {"6", "\\b(synchronized|assert|finally|try|catch|instanceof)\\b|\\b(equals|hashCode|toString)\\b"},
        {"7", "\\bnull\\b"},
        {"9", "\\bwhile\\b|;;"},
        {"10", "\\b(goto|native|strictfp|transient|volatile)\\b"},
        {"13", "\\b(Thread|Random|Runtime|Process|File|Path)\\b"},
    };
    private static final String THROW = "\\s*throw new (IllegalArgument|IllegalState|IndexOutOfBounds|NoSuchElement|"
        + "UnsupportedOperation)Exception\\(\"[^\"]*\"\\);";
    private static final int MOST_PARAMETERS = 7;
    private static final int MOST_CLASSES = 12;
    private static final int MOST_FIELDS = 20;
    private static final int MOST_LINES = 60;

    public static void main(String[] args) throws IOException {
        face();
        constants();
        privateNames();
        inside();
        fields();
        parameters();
        if (args.length > 0) {
            List<String> lines = withoutComments(Files.readAllLines(Path.of(args[0])));
            forbidden(lines);
            imports(lines);
            throwStatements(lines);
            shortMethods(lines);
        }
        Check.finish();
    }

    private static void face() {
        Check.says("The public face", "public final class StickerFoundry");
        TreeSet<String> got = new TreeSet<>();
        for (Method method : StickerFoundry.class.getDeclaredMethods()) {
            if (!Modifier.isPrivate(method.getModifiers())) {
                Check.due("modifiers of " + method.getName(), method.getModifiers(), Modifier.PUBLIC);
                got.add(signature(method));
            }
        }
        Check.due("methods", got, new TreeSet<>(List.of(FACE)));
        Check.due("modifiers", StickerFoundry.class.getModifiers(), Modifier.PUBLIC | Modifier.FINAL);
        Constructor<?>[] constructors = StickerFoundry.class.getDeclaredConstructors();
        Check.due("constructors", Arrays.toString(constructors), "[public StickerFoundry()]");
    }

    private static void constants() {
        Check.says("The public face", "public static final int NONE = -1;");
        List<String> fields = new ArrayList<>();
        for (Field field : StickerFoundry.class.getDeclaredFields()) {
            if (!Modifier.isPrivate(field.getModifiers())) {
                fields.add(field.toString());
            }
        }
        Check.due("fields", fields, List.of("public static final int StickerFoundry.NONE"));
        Check.due("NONE", StickerFoundry.NONE, -1);
    }

    private static String signature(Method method) {
        StringBuilder text = new StringBuilder(method.getReturnType() + " " + method.getName() + "(");
        for (Class<?> type : method.getParameterTypes()) {
            text.append(text.charAt(text.length() - 1) == '(' ? "" : ", ").append(type);
        }
        text.append(")");
        for (Class<?> thrown : method.getExceptionTypes()) {
            text.append(" ").append(thrown.getSimpleName());
        }
        return text.toString();
    }

    /** The class and those inside it. */
    private static List<Class<?>> all() {
        List<Class<?>> all = new ArrayList<>(List.of(StickerFoundry.class.getDeclaredClasses()));
        all.add(StickerFoundry.class);
        return all;
    }

    private static void privateNames() {
        Check.says("LANGUAGE.md, rule 1", "No private method bears the name of a public one.");
        for (Class<?> type : all()) {
            for (Method method : type.getDeclaredMethods()) {
                if (!Modifier.isPublic(method.getModifiers())) {
                    Check.no(method + " has a name of the face", isOfFace(method.getName()));
                }
            }
        }
    }

    private static boolean isOfFace(String name) {
        return Arrays.stream(FACE).anyMatch(signature -> signature.contains(" " + name + "("));
    }

    private static void inside() {
        Check.says("LANGUAGE.md, rule 1", "the classes inside it, which are private or package-visible and static");
        for (Class<?> type : StickerFoundry.class.getDeclaredClasses()) {
            int modifiers = type.getModifiers();
            Check.yes(type + " is private and static", Modifier.isPrivate(modifiers) && Modifier.isStatic(modifiers));
            Check.due("classes inside " + type, type.getDeclaredClasses().length, 0);
        }
        Check.says("LANGUAGE.md, rule 11", "the file has at most some twelve classes");
        Check.yes("not more", all().size() <= MOST_CLASSES);
    }

    private static void fields() {
        for (Class<?> type : all()) {
            int own = 0;
            for (Field field : type.getDeclaredFields()) {
                int modifiers = field.getModifiers();
                boolean isNumber = field.getType() == int.class || field.getType() == long.class;
                Check.says("LANGUAGE.md, rule 5", "Static fields are final: constants of int, long, boolean");
                Check.yes(field.toString(), !Modifier.isStatic(modifiers) || Modifier.isFinal(modifiers) && isNumber);
                own += Modifier.isStatic(modifiers) ? 0 : 1;
            }
            Check.says("LANGUAGE.md, rule 11", "a class some twenty fields beside its constants");
            Check.yes("fields of " + type, own <= MOST_FIELDS);
        }
    }

    private static void parameters() {
        Check.says("LANGUAGE.md, rule 11", "A method takes at most seven parameters.");
        for (Class<?> type : all()) {
            for (Method method : type.getDeclaredMethods()) {
                Check.yes(method.toString(), method.getParameterCount() <= MOST_PARAMETERS);
            }
        }
    }

    private static List<String> withoutComments(List<String> lines) {
        return lines.stream().map(line -> line.replaceAll("(^\\s*/?\\*.*)|(//.*)", "")).toList();
    }

    private static void forbidden(List<String> lines) {
        for (String[] rule : FORBIDDEN) {
            Check.says("LANGUAGE.md, rule " + rule[0], "what the class does without");
            Pattern pattern = Pattern.compile(rule[1]);
            for (int i = 0; i < lines.size(); i++) {
                Check.no("line " + (i + 1) + ": " + lines.get(i), pattern.matcher(lines.get(i)).find());
            }
        }
    }

    private static void imports(List<String> lines) {
        Check.says("LANGUAGE.md, rule 4", "The library: only what stands here.");
        for (String line : lines) {
            if (line.startsWith("import")) {
                Check.yes(line, line.matches("import java\\.util\\.(Arrays|NoSuchElementException);"));
            }
        }
    }

    private static void throwStatements(List<String> lines) {
        Check.says("LANGUAGE.md, rule 6", "throw new E() or throw new E(\"a written text\")");
        for (String line : lines) {
            if (line.contains("throw ")) {
                Check.yes(line, line.matches(THROW));
            }
        }
    }

    private static void shortMethods(List<String> lines) {
        Check.says("LANGUAGE.md, rule 11", "Methods stay short (some sixty lines)");
        int start = 0;
        for (int i = 0; i < lines.size(); i++) {
            start = lines.get(i).matches(" {4,8}\\S.*\\{") ? i : start;
            if (lines.get(i).matches(" {4,8}\\}") && !lines.get(start).contains(" class ")) {
                Check.yes("method at line " + (start + 1), i - start <= MOST_LINES);
            }
        }
    }
}
