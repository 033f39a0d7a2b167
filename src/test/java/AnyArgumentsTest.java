import java.lang.reflect.InvocationTargetException;
import java.lang.reflect.Method;
import java.lang.reflect.Modifier;
import java.util.ArrayList;
import java.util.Arrays;
import java.util.List;

/**
 * Rule 7 of LANGUAGE.md: every call with arguments from end to end in every state, against PlainFoundry where the
 * state has few arrangements; where it has many, only what the document names may be thrown.
 */
public final class AnyArgumentsTest {
    private static final int[] INTS = {Integer.MIN_VALUE, Integer.MIN_VALUE + 1, -(1 << 30), -256, -49, -13, -12, -2, -1,
        0, 1, 2, 3, 4, 5, 6, 7, 8, 9, 10, 11, 12, 13, 15, 16, 47, 48, 49, 255, 256, 1499, 1500, 1501, 1 << 16, 1 << 30,
        Integer.MAX_VALUE - 1, Integer.MAX_VALUE};
    private static final long[] LONGS = {Long.MIN_VALUE, Long.MIN_VALUE + 1, -(1L << 32), Integer.MIN_VALUE, -1, 0, 1, 2,
        5, 7, 8, 31, 32, 126, 127, 659, 660, 1439, 1440, 1511, 1512, 479001599L, 479001600L, Integer.MAX_VALUE, 1L << 32,
        0x2020202020202020L, 0x7E7E7E7E7E7E7E7EL, 0x2933203220312028L, 0x7F20202020202020L, 0xA020202020202020L,
        Long.MAX_VALUE - 1, Long.MAX_VALUE};

    private static final List<String> CHANGING = List.of("stickers", "type", "cut", "turn", "move", "swap", "reset",
        "unrank", "solve", "write");

    private final States.Named named;
    private final boolean isSmall;
    /** What calls that change nothing are asked of: it makes its arrangements once. */
    private final PlainFoundry unchanged = new PlainFoundry();
    private final List<String> stateBefore;

    private AnyArgumentsTest(States.Named named, boolean isSmall) {
        this.named = named;
        this.isSmall = isSmall;
        if (isSmall) {
            named.state().build(unchanged);
        }
        this.stateBefore = Report.of(unchanged, Report.Part.STATE);
    }

    public static void main(String[] args) throws ReflectiveOperationException {
        Check.says("LANGUAGE.md, rule 7", "No call may ever throw by itself (only by a throw statement) or fail to end");
        for (States.Named named : States.small()) {
            new AnyArgumentsTest(named, true).test();
        }
        for (States.Named named : States.great()) {
            new AnyArgumentsTest(named, false).test();
        }
        Check.finish();
    }

    private void test() throws ReflectiveOperationException {
        for (Report.Part part : Report.Part.values()) {
            if (isSmall) {
                Check.same(named.name() + ", " + part, Report.of(Counted.in(named.state()), part),
                    Report.of(unchanged.copy(), part));
            }
        }
        for (Method method : Foundry.class.getMethods()) {
            if (Modifier.isAbstract(method.getModifiers())) {
                for (Object[] args : argumentsOf(method)) {
                    compare(method, args);
                }
            }
        }
    }

    private static List<Object> valuesOf(Class<?> type) {
        List<Object> values = new ArrayList<>();
        if (type == int.class) {
            Arrays.stream(INTS).forEach(values::add);
        } else {
            Arrays.stream(LONGS).forEach(values::add);
        }
        return values;
    }

    private static List<Object[]> argumentsOf(Method method) {
        List<Object[]> rows = new ArrayList<>();
        rows.add(new Object[0]);
        for (Class<?> type : method.getParameterTypes()) {
            List<Object[]> longer = new ArrayList<>();
            for (Object[] row : rows) {
                for (Object value : valuesOf(type)) {
                    Object[] more = Arrays.copyOf(row, row.length + 1);
                    more[row.length] = value;
                    longer.add(more);
                }
            }
            rows = longer;
        }
        return rows;
    }

    private void compare(Method method, Object[] args) throws ReflectiveOperationException {
        Counted x = Counted.in(named.state());
        String got = answer(method, x, args);
        String what = method.getName() + Arrays.toString(args) + ": " + named.name();
        if (!isSmall) {
            Check.yes(what + " throws what the document names: " + got, !got.endsWith("Exception") || names(method, got));
            return;
        }
        boolean changes = CHANGING.contains(method.getName());
        PlainFoundry plain = changes ? unchanged.copy() : unchanged;
        Check.due(what, got, answer(method, plain, args));
        Check.same(what + ", and then", Report.of(x, Report.Part.STATE),
            changes ? Report.of(plain, Report.Part.STATE) : stateBefore);
    }

    private static boolean names(Method method, String exception) throws ReflectiveOperationException {
        Method own = StickerFoundry.class.getMethod(method.getName(), method.getParameterTypes());
        for (Class<?> type : own.getExceptionTypes()) {
            if (type.getSimpleName().equals(exception)) {
                return true;
            }
        }
        return false;
    }

    private static String answer(Method method, Foundry x, Object[] args) throws ReflectiveOperationException {
        try {
            return String.valueOf(method.invoke(x, args));
        } catch (InvocationTargetException e) {
            return e.getCause().getClass().getSimpleName();
        }
    }
}
