import java.lang.reflect.Field;
import java.util.List;

/** Promises 19 (diameter), 20 (atDistance), 21 (solve) and 22 (solution). */
public final class DistanceTest {
    private static final String[] SIXTY = {"(1 2)(4 6)(7 11)(8 10)", "(0 1)(3 4)(5 6)(7 8)(9 11)"};
    private static final Class<UnsupportedOperationException> TOO_MANY = UnsupportedOperationException.class;

    public static void main(String[] args) throws ReflectiveOperationException {
        leastDistances();
        distances();
        noSuchDistance();
        distancesFollowTheTurns();
        justFewEnough();
        justTooMany();
        limitItself();
        tooManyFirst();
        solveTheSolved();
        solveNotReachable();
        solveAfterRefusal();
        solutions();
        leastMovesFirst();
        longSolution();
        noSolutionYet();
        noSuchMoveOfSolution();
        tillTheNextThatDoesNotThrow();
        anotherPuzzleNow();
        solveKeepsTheRest();
        Check.finish();
    }

    private static void distancesAre(int stickers, String counts, String... turns) {
        Counted x = Counted.of(stickers, turns);
        x.swap(0, stickers - 1);
        String name = " with " + String.join(", ", turns);
        String[] wanted = counts.split(" ");
        Check.due("atDistance(0) asked first" + name, x.atDistance(0), 1);
        Check.due("diameter" + name, x.diameter(), wanted.length - 1);
        for (int d = 0; d < wanted.length; d++) {
            Check.due("atDistance(" + d + ")" + name, x.atDistance(d), Integer.parseInt(wanted[d]));
        }
        for (int d : new int[] {wanted.length, wanted.length + 1, -1, -2, 1500, 1501, Integer.MAX_VALUE,
            Integer.MIN_VALUE}) {
            Check.due("atDistance(" + d + ")" + name, x.atDistance(d), 0);
        }
    }

    private static void leastDistances() {
        Check.says("Terms", "The DISTANCE of a reachable arrangement is the least number of moves that lead from it");
        for (int n = 1; n <= 12; n++) {
            distancesAre(n, "1");
            distancesAre(n, "1", "", "(0)", "", " ", "(" + (n - 1) + ")");
        }
        distancesAre(2, "1 1", "(0 1)");
        distancesAre(12, "1 1", "(0 11)", "(11 0)", "(0 11)", "(0 11)", "(0 11)");
    }

    private static void distances() {
        Check.says("Promise 19", "The greatest DISTANCE that there is.");
        distancesAre(5, "1 2 2", "(0 1 2 3 4)");
        distancesAre(12, "1 2 2 2 2 2 1", "(0 1 2 3 4 5 6 7 8 9 10 11)");
        distancesAre(3, "1 3 2", "(0 1 2)", "(0 1)");
        distancesAre(4, "1 3 4", "(0 1)", "(2 3)(0 1)", "(2 3)(0 1)", "(0 2)(1 3)");
        distancesAre(4, "1 3 5 6 5 3 1", "(0 1 2 3)", "(0 1)");
        distancesAre(8, "1 6 12 10 3", "(0 1)", "(2 3)", "(4 5)", "(6 7)", "(0 2)(1 3)(4 6 5 7)");
        distancesAre(12, "1 5 18 54 100 178 248 56", States.SIX_HUNDRED_SIXTY);
    }

    private static void noSuchDistance() {
        Check.says("Promise 20", "How many reachable arrangements have a DISTANCE of d.");
        for (int d : new int[] {-1, 17, Integer.MAX_VALUE, Integer.MIN_VALUE, Integer.MIN_VALUE + 1}) {
            Check.onlyAnswers(States::justFewEnough, "atDistance(" + d + ")", 0, x -> x.atDistance(d));
        }
        Check.onlyAnswers(States::justFewEnough, "atDistance(0)", 1, x -> x.atDistance(0));
        Check.onlyAnswers(States::justFewEnough, "atDistance(16)", 1, x -> x.atDistance(16));
        Check.onlyAnswers(States::justFewEnough, "diameter()", 16, x -> x.diameter());
    }

    private static void distancesFollowTheTurns() {
        Check.says("Promise 19", "The greatest DISTANCE that there is.");
        Counted x = Counted.of(4, "(0 1 2 3)");
        Check.due("diameter", x.diameter(), 2);
        x.text("(0 1 2 3)");
        x.turn();
        Check.due("diameter with the same again", x.diameter(), 2);
        x.text("(0 2)(1 3)");
        x.turn();
        Check.due("diameter with a turn that shortens", x.diameter(), 1);
        Check.due("at distance 1", x.atDistance(1), 3);
        x.stickers(3);
        Check.due("diameter without turns", x.diameter(), 0);
    }

    private static void justFewEnough() {
        Check.says("Promise 19", "UnsupportedOperationException when more than 1500 arrangements are reachable.");
        Check.due("order", Counted.in(States::justFewEnough).order(), 1440L);
        distancesAre(8, "1 4 9 17 31 55 90 136 190 237 254 221 135 46 9 4 1", States.ALL_OF_SIX_AND_TWO);
        Counted x = Counted.of(8, States.ALL_OF_SIX_AND_TWO);
        x.unrank(1439);
        int distance = x.solve();
        List<Integer> solution = x.readSolution();
        Check.due("so many moves", solution.size(), distance);
        for (int move : solution) {
            x.move(move);
        }
        Check.due("they solve it", x.within(0), 0);
    }

    private static void refusedAsTooMany(State state, String name) {
        Check.says("Promise 19", "UnsupportedOperationException when more than 1500 arrangements are reachable.");
        Check.refused(state, "diameter() of " + name, TOO_MANY, x -> x.diameter());
        Check.says("Promise 20", "UnsupportedOperationException as for diameter.");
        for (int d : new int[] {0, 1, -1, Integer.MAX_VALUE, Integer.MIN_VALUE}) {
            Check.refused(state, "atDistance(" + d + ") of " + name, TOO_MANY, x -> x.atDistance(d));
        }
        Check.says("Promise 21", "UnsupportedOperationException as for diameter");
        Check.refused(state, "solve() of " + name, TOO_MANY, x -> x.solve());
    }

    private static void justTooMany() {
        State reachable = x -> {
            x.puzzle(9, States.JUST_TOO_MANY);
            x.move(0);
        };
        refusedAsTooMany(reachable, "1512");
        refusedAsTooMany(x -> x.puzzle(9, States.JUST_TOO_MANY), "1512, solved");
        refusedAsTooMany(States::allOfTwelve, "12!");
        refusedAsTooMany(x -> {
            x.puzzle(8, States.ALL_OF_SIX_AND_TWO);
            x.diameter();
            x.text("(5 6)");
            x.turn();
        }, "1440 that a turn made more");
        Counted x = Counted.in(States::allOfTwelve);
        x.puzzle(3, "(0 1 2)");
        Check.due("a small puzzle after a great one", x.diameter(), 1);
    }

    /**
     * No puzzle has 1441 to 1511 arrangements: of these numbers only 1485 divides 12!, and no group on twelve places
     * whose order is a multiple of eleven has just so many. So the number that the object holds is set here, and it is
     * looked only at which calls refuse then.
     */
    private static void limitItself() throws ReflectiveOperationException {
        Check.says("Promise 19", "UnsupportedOperationException when more than 1500 arrangements are reachable.");
        for (int order = 1440; order <= 1512; order++) {
            String due = order <= 1500 ? "0" : "UnsupportedOperationException";
            Check.due("diameter() of " + order, Check.answer(withOrder(order), x -> x.diameter()), due);
            Check.due("atDistance(9) of " + order, Check.answer(withOrder(order), x -> x.atDistance(9)), due);
            Check.due("solve() of " + order, Check.answer(withOrder(order), x -> x.solve()), due);
        }
    }

    /** A new object that takes its puzzle, which has one arrangement, for one that has so many. */
    private static Counted withOrder(int order) throws ReflectiveOperationException {
        Counted x = new Counted();
        int[] pointCounts = (int[]) held(held(held(x, "x"), "chain"), "pointCounts");
        pointCounts[0] = order;
        Check.due("order()", x.order(), (long) order);
        return x;
    }

    private static Object held(Object object, String name) throws ReflectiveOperationException {
        Field field = object.getClass().getDeclaredField(name);
        field.setAccessible(true);
        return field.get(object);
    }

    private static void tooManyFirst() {
        Check.says("Terms", "where several exceptions that a call names fit, it is the one that it names first");
        Check.due("reachable()", Counted.in(States::justTooMany).reachable(), false);
        Check.refused(States::justTooMany, "solve() of 1512, not reachable", TOO_MANY, x -> x.solve());
        Check.refused(x -> {
            x.puzzle(12, "(0 1 2)", "(1 2 3 4 5 6 7 8 9 10 11)");
            x.swap(0, 1);
        }, "solve() of 12! / 2, not reachable", TOO_MANY, x -> x.solve());
    }

    private static void solveTheSolved() {
        Check.says("Promise 21", "The DISTANCE of the arrangement");
        for (int n = 1; n <= 12; n++) {
            Counted x = Counted.of(n);
            Check.due("solve() without turns", x.solve(), 0);
            Check.due("its solution", x.solution(0), -1);
        }
        Counted x = Counted.of(4, "", "(0 1 2 3)");
        x.moveAll(2, 2, 2, 2);
        Check.due("solve() after four moves around", x.solve(), 0);
        Check.due("its solution", x.readSolution(), List.of());
        x.move(2);
        x.solve();
        Check.due("a solution of one move", x.readSolution(), List.of(3));
        x.reset();
        Check.due("solve() of the solved one then", x.solve(), 0);
        Check.due("its solution", x.readSolution(), List.of());
    }

    private static void solveNotReachable() {
        Check.says("Promise 21", "IllegalStateException when it is not reachable.");
        Class<IllegalStateException> why = IllegalStateException.class;
        Check.refused(States::notReachable, "solve()", why, x -> x.solve());
        Check.refused(States::withoutTurns, "solve() without turns", why, x -> x.solve());
        Check.refused(x -> {
            x.puzzle(12, States.SIX_HUNDRED_SIXTY);
            x.swap(0, 1);
        }, "solve() of 660", why, x -> x.solve());
        Check.refused(x -> {
            States.justFewEnough(x);
            x.swap(0, 7);
        }, "solve() of 1440", why, x -> x.solve());
    }

    private static void solveAfterRefusal() {
        Check.says("Terms", "A call that throws changes nothing");
        Counted x = Counted.of(6, "(0 1 2)", "(3 4)");
        x.move(0);
        x.swap(0, 5);
        Check.due("solve()", Check.answer(x, y -> y.solve()), "IllegalStateException");
        x.swap(0, 5);
        Check.due("solve() when it is reachable again", x.solve(), 1);
        Check.due("solution", x.readSolution(), List.of(1));
    }

    private static void solves(Foundry x, List<Integer> moves) {
        List<Integer> row = x.readRow();
        Check.due("solve()", x.solve(), moves.size());
        Check.due("solution", x.readSolution(), moves);
        Check.due("solve() keeps the arrangement", x.readRow(), row);
    }

    private static void solutions() {
        Check.says("Promise 21", "The DISTANCE of the arrangement; its SOLUTION is told by solution() then");
        Counted x = Counted.of(6, "(0 1 2)", "(3 4)", "(5)");
        x.moveAll(0, 2);
        solves(x, List.of(1, 2));
        Counted z = Counted.of(4, "(0 1 2 3)");
        z.move(0);
        solves(z, List.of(1));
        z.move(0);
        solves(z, List.of(0, 0));
        z.move(0);
        solves(z, List.of(0));
        z.move(0);
        solves(z, List.of());
    }

    private static void leastMovesFirst() {
        Check.says("Promise 21", "that which has the lesser move where two differ first.");
        Counted x = Counted.of(4, "(0 1)", "(2 3)", "(0 1)", "(0 1)(2 3)");
        solves(x, List.of());
        x.move(0);
        solves(x, List.of(0));
        x.move(2);
        solves(x, List.of(6));
        x.move(4);
        solves(x, List.of(2));
        Counted y = Counted.of(12, "", "(0 1)", "(2 3)", "(4 5)", "(6 7)");
        y.moveAll(8, 6, 4, 2);
        solves(y, List.of(2, 4, 6, 8));
        Counted z = Counted.of(12, "(10 11)", "(8 9)", "(0 1 2)", "(3 4 5 6)", "(3 6 5 4)");
        z.moveAll(9, 5, 3, 1, 9);
        solves(z, List.of(0, 2, 4, 6, 6));
    }

    private static void longSolution() {
        Check.says("Promise 21", "of all rows of so many moves that lead to the solved one");
        Counted x = Counted.of(12, SIXTY);
        Check.due("order", x.order(), 120L);
        Check.due("diameter", x.diameter(), 60);
        for (int i = 0; i < 30; i++) {
            x.moveAll(0, 2);
        }
        Check.due("sixty moves", x.solve(), 60);
        for (int i = 0; i < 60; i++) {
            Check.due("solution(" + i + ")", x.solution(i), i % 2 * 2);
        }
        Check.due("solution(60)", x.solution(60), -1);
    }

    private static void noSolutionYet() {
        Check.says("Promise 22", "NONE when there is none such.");
        for (int i : new int[] {0, 1, -1, Integer.MAX_VALUE, Integer.MIN_VALUE}) {
            Check.onlyAnswers(x -> { }, "solution(" + i + ") of a new object", -1, x -> x.solution(i));
            Check.onlyAnswers(x -> x.puzzle(12, States.ALL_OF_TWELVE), "solution(" + i + ") before a solve()", -1,
                x -> x.solution(i));
        }
        Counted x = Counted.of(4, "(0 1)");
        x.move(0);
        x.diameter();
        x.within(4);
        Check.due("solution(0) before a solve()", x.solution(0), -1);
        x.swap(2, 3);
        Check.due("solve()", Check.answer(x, y -> y.solve()), "IllegalStateException");
        Check.due("solution(0) after one that throws", x.solution(0), -1);
    }

    private static void noSuchMoveOfSolution() {
        Check.says("Promise 22", "NONE when there is none such.");
        for (int moves = 0; moves <= 6; moves++) {
            Counted x = Counted.of(12, "(0 1 2 3 4 5 6 7 8 9 10 11)");
            for (int m = 0; m < moves; m++) {
                x.move(1);
            }
            Check.due("solve()", x.solve(), moves);
            for (int i = 0; i < moves; i++) {
                Check.due("solution(" + i + ") of " + moves, x.solution(i), 0);
            }
            for (int i : new int[] {moves, -1, moves + 1, -2, 1499, 1500, 1501, Integer.MAX_VALUE, Integer.MIN_VALUE,
                Integer.MIN_VALUE + 1}) {
                Check.due("solution(" + i + ") of " + moves, x.solution(i), -1);
            }
        }
        Check.onlyAnswers(States::square, "solution(-1)", -1, x -> x.solution(-1));
    }

    private static void tillTheNextThatDoesNotThrow() {
        Check.says("Promise 21", "its SOLUTION is told by solution() then, till the next that does not throw");
        Counted x = Counted.of(6, "(0 1 2)", "(3 4)");
        x.moveAll(0, 2);
        x.solve();
        List<Integer> found = List.of(1, 2);
        x.swap(0, 5);
        Check.due("solve()", Check.answer(x, y -> y.solve()), "IllegalStateException");
        Check.due("after one that throws", x.readSolution(), found);
        x.puzzle(9, States.JUST_TOO_MANY);
        Check.due("solve()", Check.answer(x, y -> y.solve()), "UnsupportedOperationException");
        Check.due("after another that throws", x.readSolution(), found);
        x.puzzle(2, "(0 1)");
        x.move(0);
        Check.due("solve()", x.solve(), 1);
        Check.due("after one that does not", x.readSolution(), List.of(0));
        x.reset();
        Check.due("solve()", x.solve(), 0);
        Check.due("after one without moves", x.readSolution(), List.of());
    }

    private static void anotherPuzzleNow() {
        Check.says("Promise 22", "Move i of the solution that was found last (the puzzle may be another one now)");
        Counted x = Counted.of(5, "", "", "", "", "(0 1 2 3 4)");
        x.moveAll(9, 9);
        x.solve();
        List<Integer> found = List.of(8, 8);
        x.reset();
        Check.due("after reset()", x.readSolution(), found);
        x.move(8);
        x.swap(0, 1);
        x.unrank(4);
        Check.due("after changes of the arrangement", x.readSolution(), found);
        x.diameter();
        x.atDistance(1);
        x.within(4);
        x.write(4);
        x.cut(0);
        Check.due("after other calls", x.readSolution(), found);
        x.stickers(1);
        Check.due("of a puzzle without turns", x.readSolution(), found);
        x.puzzle(12, "(0 1)");
        Check.due("of a puzzle with one turn", x.readSolution(), found);
        x.diameter();
        Check.due("after its diameter", x.readSolution(), found);
    }

    private static void solveKeepsTheRest() {
        Check.says("Promise 21", "The DISTANCE of the arrangement");
        Counted x = Counted.in(States::square);
        List<Integer> row = x.readRow();
        x.solve();
        Check.due("places", x.readRow(), row);
        Check.due("text", x.readText(), "(0 2)");
        Check.due("turns", x.turns(), 2);
        Check.due("order", x.order(), 8L);
        Check.nothingChanges(y -> {
            States.square(y);
            y.solve();
        }, "solve() again", y -> y.solve());
    }
}
