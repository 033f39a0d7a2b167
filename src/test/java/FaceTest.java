import java.io.IOException;
import java.lang.reflect.Constructor;
import java.lang.reflect.Field;
import java.lang.reflect.Member;
import java.lang.reflect.Method;
import java.lang.reflect.Modifier;
import java.nio.file.Files;
import java.nio.file.Path;
import java.util.ArrayList;
import java.util.Arrays;
import java.util.List;
import java.util.TreeSet;
import java.util.regex.Matcher;
import java.util.regex.Pattern;

/** The public face of the document, and those rules of LANGUAGE.md that can be seen in the class or its text. */
public final class FaceTest {
    private static final String[] FACE = {
        "boolean cut(int)",
        "boolean inOrbit(int, int) IndexOutOfBoundsException",
        "boolean reachable()",
        "boolean stickers(int)",
        "boolean type(long, int)",
        "int atDistance(int) UnsupportedOperationException",
        "int block(int, int) IndexOutOfBoundsException",
        "int character(int)",
        "int diameter() UnsupportedOperationException",
        "int image(int, int) IndexOutOfBoundsException",
        "int orbit(int) IndexOutOfBoundsException",
        "int place(int) IndexOutOfBoundsException",
        "int solution(int)",
        "int solve() UnsupportedOperationException IllegalStateException",
        "int turn() IllegalArgumentException IndexOutOfBoundsException IllegalStateException "
            + "UnsupportedOperationException",
        "int turns()",
        "int within(int) IllegalArgumentException",
        "int write(int) IndexOutOfBoundsException",
        "long order()",
        "long rank() IllegalStateException",
        "void move(int) IndexOutOfBoundsException",
        "void reset()",
        "void swap(int, int) IndexOutOfBoundsException",
        "void unrank(long) NoSuchElementException",
    };
    /** What no line may have, comments apart, with the rule that says so. */
    private static final String[] FORBIDDEN = {"^package", "->", "::", "\\b(synchronized|assert|finally|try|var|goto)\\b",
        "Exact\\(", "\\bstatic \\{", "\\bdouble\\b", "\\bfloat\\b", "Math\\.random", "System\\.(?!arraycopy)", "\\bnull\\b",
        "\\bprotected\\b", "(Long|Integer)\\.[A-Z]"};

    public static void main(String[] args) throws IOException {
        face();
        members();
        if (args.length > 0) {
            source(Files.readAllLines(Path.of(args[0])));
        }
        Check.finish();
    }

    private static void face() {
        TreeSet<String> got = new TreeSet<>();
        for (Method method : StickerFoundry.class.getDeclaredMethods()) {
            if (!Modifier.isPrivate(method.getModifiers())) {
                Check.due("modifiers of " + method.getName(), method.getModifiers(), Modifier.PUBLIC);
                got.add(signature(method));
            }
        }
        Check.due("methods", got, new TreeSet<>(List.of(FACE)));
        int modifiers = StickerFoundry.class.getModifiers();
        Check.due("class modifiers", modifiers, Modifier.PUBLIC | Modifier.FINAL);
        Constructor<?>[] constructors = StickerFoundry.class.getDeclaredConstructors();
        Check.due("constructors", Arrays.toString(constructors), "[public StickerFoundry()]");
        List<String> fields = new ArrayList<>();
        for (Field field : StickerFoundry.class.getDeclaredFields()) {
            if (!Modifier.isPrivate(field.getModifiers())) {
                fields.add(field.toString());
            }
        }
        Check.due("fields", fields, List.of("public static final int StickerFoundry.NONE"));
    }

    private static String signature(Method method) {
        StringBuilder text = new StringBuilder(method.getReturnType() + " " + method.getName() + "(");
        for (Class<?> type : method.getParameterTypes()) {
            text.append(text.charAt(text.length() - 1) == '(' ? "" : ", ").append(type);
        }
        text.append(")");
        for (Class<?> thrown : method.getExceptionTypes()) {
            text.append(" ").append(thrown.getSimpleName());
        }
        return text.toString();
    }

    private static void members() {
        Class<?>[] inside = StickerFoundry.class.getDeclaredClasses();
        Check.yes("at most twelve classes", inside.length < 12);
        List<Class<?>> all = new ArrayList<>(List.of(inside));
        all.add(StickerFoundry.class);
        for (Class<?> type : all) {
            if (type != StickerFoundry.class) {
                Check.yes(type + " is private and static",
                    Modifier.isPrivate(type.getModifiers()) && Modifier.isStatic(type.getModifiers()));
                noneHasAName(type);
            }
            int fields = 0;
            for (Field field : type.getDeclaredFields()) {
                boolean isStatic = Modifier.isStatic(field.getModifiers());
                Check.yes(field + " is final if static", !isStatic || isFinal(field));
                fields += isStatic ? 0 : 1;
            }
            Check.yes(type + " has at most twenty fields", fields <= 20);
        }
    }

    private static boolean isFinal(Member member) {
        return Modifier.isFinal(member.getModifiers());
    }

    private static void noneHasAName(Class<?> type) {
        for (Method method : type.getDeclaredMethods()) {
            for (String signature : FACE) {
                Check.no(method + " has a name of the face", signature.contains(" " + method.getName() + "("));
            }
        }
    }

    private static void source(List<String> lines) {
        int methodStart = 0;
        for (int i = 0; i < lines.size(); i++) {
            String line = lines.get(i).replaceAll("(^\\s*(/\\*)?\\*.*)|(^\\s*/\\*\\*.*)|(//.*)", "");
            for (String forbidden : FORBIDDEN) {
                Matcher matcher = Pattern.compile(forbidden).matcher(line);
                Check.no("line " + (i + 1) + " has " + forbidden, matcher.find());
            }
            if (line.startsWith("import")) {
                Check.yes(line, line.matches("import java\\.util\\.(Arrays|NoSuchElementException);"));
            }
            methodStart = line.matches(" {4,8}\\S.*\\{") ? i : methodStart;
            if (line.matches(" {4,8}\\}") && !lines.get(methodStart).contains(" class ")) {
                Check.yes("method at line " + (methodStart + 1) + " is short", i - methodStart <= 60);
            }
        }
    }
}
