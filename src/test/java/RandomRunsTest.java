import java.lang.reflect.InvocationTargetException;
import java.lang.reflect.Method;
import java.lang.reflect.Modifier;
import java.util.ArrayList;
import java.util.Arrays;
import java.util.Collections;
import java.util.Comparator;
import java.util.List;
import java.util.Random;

/** All promises: long runs of calls by chance (always the same), answered by StickerFoundry and by PlainFoundry. */
public final class RandomRunsTest {
    private static final int RUNS = 400;
    private static final int CALLS = 512;
    private static final int MOST_FOR_ANY_TURN = 6;
    private static final String[][] GREATER_PUZZLES = {
        {"(0 1 2 3 4 5 6 7 8 9 10)", "(1 3 9 5 4)(2 6 7 10 8)", "(11 0)(1 10)(2 5)(3 7)(4 8)(6 9)"},
        {"(1 2 4 3 6 7 5)", "(0 1)(2 3)(4 5)(6 7)", "(0 8)(2 5)(3 6)(4 7)", "(2 4 6)(3 5 7)"},
        {"(0 1 2 3 4 5 6 7 8 9 10)", "(2 6 10 7)(3 9 4 5)"},
        {"(0 3 6 9)(1 4 7 10)(2 5 8 11)", "(0 1 2)", "(3 4)(9 10)"},
        {"(11 9 7 5 3 1)(0 2 4 6 8 10)", "(0 1)(2 3)(4 5)(6 7)(8 9)(10 11)", "(0 6)(1 7)"},
        {"(1 2)(4 6)(7 11)(8 10)", "(0 1)(3 4)(5 6)(7 8)(9 11)"},
    };

    private final Random random;
    private final Counted x = new Counted();
    private final PlainFoundry plain = new PlainFoundry();
    private final List<Method> methods;
    private int size = 1;
    private int calls = 0;

    private RandomRunsTest(long seed, List<Method> methods) {
        this.random = new Random(seed);
        this.methods = methods;
    }

    public static void main(String[] args) throws ReflectiveOperationException {
        List<Method> methods = new ArrayList<>();
        for (Method method : Foundry.class.getMethods()) {
            if (Modifier.isAbstract(method.getModifiers())) {
                methods.add(method);
            }
        }
        methods.sort(Comparator.comparing(Method::getName));
        for (int run = 0; run < RUNS; run++) {
            new RandomRunsTest(run, methods).play();
        }
        Check.finish();
    }

    private void play() throws ReflectiveOperationException {
        newPuzzle();
        while (calls < CALLS) {
            int what = random.nextInt(60);
            if (what == 0) {
                newPuzzle();
            } else if (what == 1 && size <= MOST_FOR_ANY_TURN) {
                typeText(random.nextInt(3) > 0 ? turnText() : noise());
                call("turn");
            } else if (what < 15) {
                call("move", number(2 * plain.turns()));
            } else {
                callAny();
            }
        }
    }

    /** Few stickers with any turns, or many with turns that are known to make few: PlainFoundry makes all rows. */
    private void newPuzzle() throws ReflectiveOperationException {
        if (random.nextInt(3) == 0) {
            size = 12;
            call("stickers", size);
            for (String turn : GREATER_PUZZLES[random.nextInt(GREATER_PUZZLES.length)]) {
                typeText(turn);
                call("turn");
            }
            return;
        }
        size = 1 + random.nextInt(MOST_FOR_ANY_TURN);
        call("stickers", size);
        for (int t = random.nextInt(4); t > 0; t--) {
            typeText(turnText());
            call("turn");
        }
    }

    private String turnText() {
        List<Integer> places = new ArrayList<>();
        for (int p = 0; p < size; p++) {
            places.add(p);
        }
        Collections.shuffle(places, random);
        return cycles(places, 1 + random.nextInt(size));
    }

    /** Cuts the row of places into cycles of this length, leaves some out, and puts spaces where they may be. */
    private String cycles(List<Integer> places, int length) {
        StringBuilder text = new StringBuilder();
        for (int i = 0; i < places.size(); i += length) {
            if (random.nextInt(4) > 0) {
                List<Integer> cycle = new ArrayList<>(places.subList(i, Math.min(i + length, places.size())));
                Collections.rotate(cycle, random.nextInt(length));
                text.append(random.nextInt(5) == 0 ? " (" : "(");
                for (int k = 0; k < cycle.size(); k++) {
                    text.append(k == 0 ? "" : random.nextInt(9) == 0 ? "  " : " ").append(cycle.get(k));
                }
                text.append(random.nextInt(9) == 0 ? " )" : ")");
            }
        }
        return text.length() <= 48 ? text.toString() : "";
    }

    private String noise() {
        String[] parts = {"(", ")", " ", "0", "1", "2", "10", "7", "(0 1)", "(3", " 4)", "99", "(2 5)", ","};
        StringBuilder text = new StringBuilder();
        for (int i = random.nextInt(7); i > 0; i--) {
            text.append(parts[random.nextInt(parts.length)]);
        }
        return text.toString();
    }

    private void typeText(String text) throws ReflectiveOperationException {
        call("cut", 0);
        for (int i = 0; i < text.length(); i += 8) {
            String part = text.substring(i, Math.min(i + 8, text.length()));
            call("type", Foundry.bytes(part), part.length());
        }
    }

    /** A number that there is, mostly; else one beside them or far away. */
    private int number(int count) {
        int[] odd = {-1, -2, count, count + 1, Integer.MAX_VALUE, Integer.MIN_VALUE};
        return count == 0 || random.nextInt(12) == 0 ? odd[random.nextInt(odd.length)] : random.nextInt(count);
    }

    private void callAny() throws ReflectiveOperationException {
        String name = methods.get(random.nextInt(methods.size())).getName();
        switch (name) {
            case "stickers" -> call(name, random.nextBoolean() ? 0 : 13 + random.nextInt(3));
            case "type" -> call(name, Foundry.bytes("(0 1) 2 ") + (random.nextInt(5) == 0 ? 255 : 0), number(9));
            case "cut" -> call(name, number(20));
            case "image" -> call(name, number(plain.turns()), number(size));
            case "move" -> call(name, number(2 * plain.turns()));
            case "swap", "inOrbit", "block" -> call(name, number(size), number(size));
            case "place", "orbit" -> call(name, number(size));
            case "unrank" -> call(name, (long) number((int) plain.order()));
            case "atDistance", "solution" -> call(name, number(8));
            case "within" -> call(name, number(5));
            case "write" -> call(name, number(plain.turns() + 1) - 1);
            case "character" -> call(name, number(24));
            case "turn" -> call(size <= MOST_FOR_ANY_TURN ? name : "turns");
            default -> call(name);
        }
    }

    private void call(String name, Object... args) throws ReflectiveOperationException {
        if (calls == CALLS) {
            return;
        }
        calls++;
        for (Method method : methods) {
            if (method.getName().equals(name)) {
                Object want = answer(method, plain, args);
                Check.due(name + Arrays.toString(args) + " with " + plain, answer(method, x, args), want);
                return;
            }
        }
        Check.yes("there is a method " + name, false);
    }

    private static Object answer(Method method, Foundry object, Object[] args) throws ReflectiveOperationException {
        try {
            Object answer = method.invoke(object, args);
            return answer == null ? "nothing" : answer;
        } catch (InvocationTargetException e) {
            return e.getCause().getClass().getSimpleName();
        }
    }
}
