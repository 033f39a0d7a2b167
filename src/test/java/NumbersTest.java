import java.util.ArrayList;
import java.util.List;

/** Numbers that there are not, in all calls that have them and in all states; and the last ones that there are. */
public final class NumbersTest {
    private final States.Named named;

    private NumbersTest(States.Named named) {
        this.named = named;
    }

    public static void main(String[] args) {
        Check.says("Terms", "Numbers of stickers, places, turns and moves that there are not are refused with"
            + " IndexOutOfBoundsException by all calls that have them.");
        List<States.Named> all = new ArrayList<>(States.small());
        all.addAll(States.great());
        for (States.Named named : all) {
            new NumbersTest(named).test();
        }
        Check.finish();
    }

    private interface One {
        void call(Foundry x, int number);
    }

    private interface Two {
        void call(Foundry x, int first, int second);
    }

    private void test() {
        int stickers = named.stickers();
        int turns = named.turns();
        one("move", 0, 2 * turns, (x, m) -> x.move(m));
        one("place", 0, stickers, (x, s) -> x.place(s));
        one("orbit", 0, stickers, (x, k) -> x.orbit(k));
        one("write", -1, turns, (x, t) -> x.write(t));
        two("image", turns, stickers, (x, t, p) -> x.image(t, p));
        two("swap", stickers, stickers, (x, a, b) -> x.swap(a, b));
        two("inOrbit", stickers, stickers, (x, k, p) -> x.inOrbit(k, p));
        two("block", stickers, stickers, (x, j, s) -> x.block(j, s));
    }

    private int[] noNumbers(int first, int end) {
        return new int[] {first - 1, end, Integer.MIN_VALUE, Integer.MAX_VALUE, (1 << 30) + first, Integer.MIN_VALUE + 1};
    }

    private void taken(String what, Check.Do call) {
        Check.due(what + ": " + named.name(), Check.outcome(Counted.in(named.state()), call), "nothing");
    }

    private void refused(String what, Check.Do call) {
        Check.refused(named.state(), what + ": " + named.name(), IndexOutOfBoundsException.class, call);
    }

    private void one(String name, int first, int end, One call) {
        for (int number = first; number < end; number++) {
            int good = number;
            taken(name + "(" + number + ")", x -> call.call(x, good));
        }
        for (int number : noNumbers(first, end)) {
            refused(name + "(" + number + ")", x -> call.call(x, number));
        }
    }

    private void two(String name, int firstEnd, int secondEnd, Two call) {
        for (int first = 0; first < firstEnd; first++) {
            for (int second = 0; second < secondEnd; second++) {
                int a = first;
                int b = second;
                taken(name + "(" + a + ", " + b + ")", x -> call.call(x, a, b));
            }
        }
        for (int number : noNumbers(0, firstEnd)) {
            refused(name + "(" + number + ", 0)", x -> call.call(x, number, 0));
            refused(name + "(" + number + ", " + (secondEnd - 1) + ")", x -> call.call(x, number, secondEnd - 1));
            refused(name + "(" + number + ", -1)", x -> call.call(x, number, -1));
        }
        if (firstEnd > 0) {
            for (int number : noNumbers(0, secondEnd)) {
                refused(name + "(0, " + number + ")", x -> call.call(x, 0, number));
                refused(name + "(" + (firstEnd - 1) + ", " + number + ")", x -> call.call(x, firstEnd - 1, number));
            }
        }
    }
}
