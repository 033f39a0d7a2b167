import java.util.Arrays;
import java.util.List;

/** Promises 8 (move), 9 (swap), 10 (reset) and 11 (place). */
public final class ArrangementTest {
    private static final String[] FIVE = {"(0 1 2)", "(2 3)", "", "(0)", "(0 1 2 3)"};
    private static final List<Integer> SOLVED = List.of(0, 1, 2, 3);

    public static void main(String[] args) {
        noTwoAtOnePlace();
        solvedIfEachIsAtItsPlace();
        moves();
        eachMove();
        noSuchMove();
        swaps();
        swapOfOnePlace();
        swapThatTurnsCannotMake();
        noSuchPlaces();
        reset();
        resetOfTheSolved();
        resetKeepsTheRest();
        places();
        noSuchSticker();
        Check.finish();
    }

    private static void noTwoAtOnePlace() {
        Check.says("Terms", "An ARRANGEMENT says at which place each sticker is, no two at the same one; it is told as the"
            + " row of the places of sticker 0, 1, ..");
        for (int n = 1; n <= 12; n++) {
            Counted x = Counted.of(n, "(" + (n - 1) + ")", n > 1 ? "(0 " + (n - 1) + ")" : "");
            for (int i = 0; i < 2 * n; i++) {
                x.swap(i % n, i / 2);
                x.moveAll(2, 0, 3, 1, 2);
                List<Integer> row = x.readRow();
                Check.due("stickers", row.size(), n);
                row.sort(null);
                Check.due("places", List.of(row.get(0), row.get(n - 1)), List.of(0, n - 1));
                Check.due("different places", row.stream().distinct().count(), (long) n);
                if (i == n) {
                    x.unrank(x.order() - 1);
                }
            }
        }
    }

    private static void solvedIfEachIsAtItsPlace() {
        Check.says("Terms", "it is SOLVED if each sticker s is at place s.");
        for (int n = 1; n <= 12; n++) {
            Counted x = Counted.of(n);
            for (int a = 0; a < n; a++) {
                for (int b = 0; b < n; b++) {
                    x.swap(a, b);
                    Check.due("moves to the solved one after swap(" + a + ", " + b + ")", x.within(0), a == b ? 0 : -1);
                    x.swap(b, a);
                }
            }
            Check.due("moves to the solved one", x.within(0), 0);
            Check.due("distance of the solved one", x.solve(), 0);
        }
    }

    private static void moves() {
        Check.says("Terms", "To make turn t takes each sticker from where it is to where t takes what is there.");
        Counted x = Counted.of(4, "(0 1 2)", "(2 3)");
        x.move(0);
        Check.due("turn 0", x.readRow(), List.of(1, 2, 0, 3));
        x.move(2);
        Check.due("then turn 1", x.readRow(), List.of(1, 3, 0, 2));
        x.move(1);
        Check.due("then turn 0 backwards", x.readRow(), List.of(0, 3, 2, 1));
        x.move(3);
        Check.due("then turn 1 backwards", x.readRow(), List.of(0, 2, 3, 1));
        x.reset();
        x.move(1);
        Check.due("turn 0 backwards", x.readRow(), List.of(2, 0, 1, 3));
    }

    private static void eachMove() {
        Check.says("Terms", "A MOVE is 2 * t, to make turn t, or 2 * t + 1, to make it backwards.");
        for (int t = 0; t < 5; t++) {
            Counted x = Counted.of(4, FIVE);
            x.move(2 * t);
            Check.due("move(" + 2 * t + ")", x.readRow(), x.readTurn(t));
            x.move(2 * t + 1);
            Check.due("and backwards", x.readRow(), SOLVED);
            x.move(2 * t + 1);
            for (int s = 0; s < 4; s++) {
                Check.due("move(" + (2 * t + 1) + ") of " + s, x.image(t, x.place(s)), s);
            }
            x.move(2 * t);
            Check.due("and forwards", x.readRow(), SOLVED);
        }
        Check.says("Promise 8", "Makes a move on the arrangement.");
        Counted one = Counted.of(1, "(0)");
        one.moveAll(0, 1);
        Check.due("one sticker", one.readRow(), List.of(0));
        Counted x = Counted.of(12, "(0 1 2 3 4 5 6 7 8 9 10 11)");
        for (int i = 0; i < 11; i++) {
            x.move(0);
            Check.due("place(0)", x.place(0), i + 1);
            Check.due("place(11)", x.place(11), i);
        }
        x.move(0);
        Check.due("once around", x.place(0), 0);
        x.move(1);
        Check.due("once backwards", x.place(0), 11);
    }

    private static void noSuchMove() {
        Check.says("Terms", "turns and moves that there are not are refused with IndexOutOfBoundsException by all calls");
        for (int turns = 0; turns <= 5; turns++) {
            String[] some = Arrays.copyOf(FIVE, turns);
            for (int m = 0; m < 2 * turns; m++) {
                int move = m;
                Check.due("move(" + m + ") of " + turns + " turns",
                    Check.outcome(Counted.of(4, some), x -> x.move(move)), "nothing");
            }
            for (int m : new int[] {2 * turns, -1, 2 * turns + 1, -2, 10, 11, Integer.MAX_VALUE, Integer.MIN_VALUE,
                Integer.MIN_VALUE + 1}) {
                Check.refused(x -> {
                    x.puzzle(4, some);
                    x.swap(0, 3);
                }, "move(" + m + ") of " + turns + " turns", IndexOutOfBoundsException.class, x -> x.move(m));
            }
        }
        Check.refused(x -> {
            x.puzzle(4, FIVE);
            x.stickers(4);
        }, "move(0) of a new puzzle", IndexOutOfBoundsException.class, x -> x.move(0));
    }

    private static void swaps() {
        Check.says("Promise 9", "The stickers at two places (which may be one) change places.");
        Counted x = Counted.of(4, "(0 1 2)");
        x.move(0);
        x.swap(0, 3);
        Check.due("the stickers at 0 and 3 change", x.readRow(), List.of(1, 2, 3, 0));
        x.swap(2, 1);
        Check.due("the stickers at 2 and 1 change", x.readRow(), List.of(2, 1, 3, 0));
        x.swap(2, 1);
        Check.due("and back", x.readRow(), List.of(1, 2, 3, 0));
        Counted y = Counted.of(12);
        y.swap(11, 0);
        Check.due("of twelve", y.readRow(), List.of(11, 1, 2, 3, 4, 5, 6, 7, 8, 9, 10, 0));
        y.swap(10, 11);
        Check.due("and the next", y.readRow(), List.of(10, 1, 2, 3, 4, 5, 6, 7, 8, 9, 11, 0));
    }

    private static void swapOfOnePlace() {
        Check.says("Promise 9", "The stickers at two places (which may be one) change places.");
        Check.nothingChanges(x -> { }, "swap(0, 0) of one sticker", x -> x.swap(0, 0));
        for (int p = 0; p < 4; p++) {
            int place = p;
            Check.nothingChanges(States::square, "swap(" + p + ", " + p + ")", x -> x.swap(place, place));
            Check.due("it throws", Check.outcome(Counted.in(States::square), x -> x.swap(place, place)), "nothing");
        }
        Check.nothingChanges(States::allOfTwelve, "swap(11, 11)", x -> x.swap(11, 11));
    }

    private static void swapThatTurnsCannotMake() {
        Check.says("Promise 9", "(Whether turns can do that or not.)");
        Counted x = Counted.of(4);
        x.swap(0, 1);
        Check.due("without turns", x.readRow(), List.of(1, 0, 2, 3));
        Check.no("reachable", x.reachable());
        Counted y = Counted.of(4, "(0 1 2)");
        y.swap(0, 1);
        Check.due("with a turn of three", y.readRow(), List.of(1, 0, 2, 3));
        Check.no("reachable", y.reachable());
        Counted z = Counted.of(4, "(0 1)");
        z.swap(0, 1);
        Check.yes("as a turn", z.reachable());
    }

    private static void noSuchPlaces() {
        Check.says("Terms", "Numbers of stickers, places, turns and moves that there are not are refused");
        for (int n : new int[] {1, 4, 12}) {
            State state = x -> {
                x.puzzle(n, "(0)");
                x.swap(0, n - 1);
            };
            for (int p : new int[] {n, -1, n + 1, -2, 12, 16, Integer.MAX_VALUE, Integer.MIN_VALUE}) {
                refusedSwap(state, 0, p);
                refusedSwap(state, p, n - 1);
                refusedSwap(state, p, p);
            }
        }
    }

    private static void refusedSwap(State state, int a, int b) {
        Check.refused(state, "swap(" + a + ", " + b + ")", IndexOutOfBoundsException.class, x -> x.swap(a, b));
    }

    private static void reset() {
        Check.says("Promise 10", "The arrangement is solved.");
        Counted x = Counted.of(4, "(0 1 2)");
        x.move(0);
        x.reset();
        Check.due("a reachable one", x.readRow(), SOLVED);
        x.swap(0, 3);
        x.reset();
        Check.due("one that is not reachable", x.readRow(), SOLVED);
        for (States.Named named : States.small()) {
            Counted y = Counted.in(named.state());
            y.reset();
            List<Integer> row = y.readRow();
            Check.due("stickers of " + named.name(), row.size(), named.stickers());
            for (int s = 0; s < row.size(); s++) {
                Check.due("place(" + s + ") of " + named.name(), row.get(s), s);
            }
            Check.due("its rank", y.rank(), 0L);
            Check.due("within(0)", y.within(0), 0);
        }
    }

    private static void resetOfTheSolved() {
        Check.says("Promise 10", "The arrangement is solved.");
        Check.nothingChanges(x -> { }, "reset() of a new object", x -> x.reset());
        Check.nothingChanges(x -> x.puzzle(12, "(0 1)"), "reset() of a solved one", x -> x.reset());
    }

    private static void resetKeepsTheRest() {
        Check.says("Promise 10", "The arrangement is solved.");
        Counted x = Counted.in(States::square);
        x.reset();
        Check.due("turns", x.turns(), 2);
        Check.due("turn 0", x.readTurn(0), List.of(1, 2, 3, 0));
        Check.due("text", x.readText(), "(0 2)");
        Check.due("solution", x.readSolution(), Counted.in(States::square).readSolution());
        Check.due("order", x.order(), 8L);
    }

    private static void places() {
        Check.says("Promise 11", "The place of a sticker in the arrangement.");
        Counted x = Counted.of(12, "(0 11 5)");
        x.move(0);
        Check.due("place(0)", x.place(0), 11);
        Check.due("place(11)", x.place(11), 5);
        Check.due("place(5)", x.place(5), 0);
        Check.due("place(10)", x.place(10), 10);
        Check.due("of one sticker", new Counted().place(0), 0);
    }

    private static void noSuchSticker() {
        Check.says("Terms", "Numbers of stickers, places, turns and moves that there are not are refused");
        for (int n = 1; n <= 12; n++) {
            int stickers = n;
            Check.due("place of the last", Counted.of(n).place(n - 1), n - 1);
            for (int s : new int[] {n, -1, n + 1, 12, 13, 16, -12, Integer.MAX_VALUE, Integer.MIN_VALUE}) {
                Check.refused(x -> x.puzzle(stickers), "place(" + s + ") of " + n, IndexOutOfBoundsException.class,
                    x -> x.place(s));
            }
        }
    }
}
