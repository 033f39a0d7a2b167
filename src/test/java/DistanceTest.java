import java.util.List;

/** Promises 19 (diameter), 20 (atDistance), 21 (solve), 22 (solution) and 23 (within). */
public final class DistanceTest {
    private static final String[] ALL_OF_SIX_AND_TWO = {"(0 1 2 3 4 5)", "(0 1)", "(6 7)"};
    private static final String[] JUST_TOO_MANY = {"(1 2 4 3 6 7 5)", "(0 1)(2 3)(4 5)(6 7)", "(0 8)(2 5)(3 6)(4 7)",
        "(2 4 6)(3 5 7)"};

    public static void main(String[] args) {
        distances();
        tooMany();
        distancesFollowTheTurns();
        farthest();
        solutions();
        solutionStays();
        within();
        withinGreatPuzzles();
        Check.finish();
    }

    private static void distances() {
        distancesAre(1, "1");
        distancesAre(4, "1", "", "(2)");
        distancesAre(2, "1 1", "(0 1)");
        distancesAre(5, "1 2 2", "(0 1 2 3 4)");
        distancesAre(3, "1 3 2", "(0 1 2)", "(0 1)");
        distancesAre(4, "1 3 4", "(0 1)", "(2 3)(0 1)", "(2 3)(0 1)", "(0 2)(1 3)");
        distancesAre(4, "1 3 5 6 5 3 1", "(0 1 2 3)", "(0 1)");
        distancesAre(8, "1 6 12 10 3", "(0 1)", "(2 3)", "(4 5)", "(6 7)", "(0 2)(1 3)(4 6 5 7)");
        distancesAre(8, "1 4 9 17 31 55 90 136 190 237 254 221 135 46 9 4 1", ALL_OF_SIX_AND_TWO);
        distancesAre(12, "1 5 18 54 100 178 248 56", "(0 1 2 3 4 5 6 7 8 9 10)", "(1 3 9 5 4)(2 6 7 10 8)",
            "(11 0)(1 10)(2 5)(3 7)(4 8)(6 9)");
    }

    private static void distancesAre(int stickers, String counts, String... turns) {
        StickerFoundry x = Check.puzzle(stickers, turns);
        x.swap(0, stickers - 1);
        String name = " with " + String.join(", ", turns);
        String[] wanted = counts.split(" ");
        Check.due("atDistance(0) asked first" + name, x.atDistance(0), 1);
        Check.due("diameter" + name, x.diameter(), wanted.length - 1);
        for (int d = 0; d < wanted.length; d++) {
            Check.due("atDistance(" + d + ")" + name, x.atDistance(d), Integer.parseInt(wanted[d]));
        }
        for (int d : new int[] {wanted.length, wanted.length + 1, -1, Integer.MAX_VALUE, Integer.MIN_VALUE}) {
            Check.due("atDistance(" + d + ")" + name, x.atDistance(d), 0);
        }
    }

    private static void tooMany() {
        StickerFoundry y = Check.puzzle(9, JUST_TOO_MANY);
        y.move(0);
        refusedAsTooMany(y, "1512");
        y.swap(0, 1);
        y.swap(2, 3);
        y.swap(0, 4);
        Check.no("reachable", y.reachable());
        refusedAsTooMany(y, "1512, not reachable");
        refusedAsTooMany(Check.puzzle(12, "(0 1)", "(0 1 2 3 4 5 6 7 8 9 10 11)"), "12!");
    }

    private static void refusedAsTooMany(StickerFoundry x, String name) {
        Class<UnsupportedOperationException> why = UnsupportedOperationException.class;
        Check.refused(x, "diameter of " + name, why, () -> x.diameter());
        Check.refused(x, "atDistance(0) of " + name, why, () -> x.atDistance(0));
        Check.refused(x, "atDistance(-1) of " + name, why, () -> x.atDistance(-1));
        Check.refused(x, "solve of " + name, why, () -> x.solve());
    }

    private static void distancesFollowTheTurns() {
        StickerFoundry x = Check.puzzle(4, "(0 1 2 3)");
        Check.due("diameter", x.diameter(), 2);
        Check.text(x, "(0 1 2 3)");
        x.turn();
        Check.due("diameter with the same again", x.diameter(), 2);
        Check.text(x, "(0 2)(1 3)");
        x.turn();
        Check.due("diameter with a turn that shortens", x.diameter(), 1);
        x.stickers(3);
        Check.due("diameter without turns", x.diameter(), 0);
    }

    private static void farthest() {
        StickerFoundry x = Check.puzzle(12, "(1 2)(4 6)(7 11)(8 10)", "(0 1)(3 4)(5 6)(7 8)(9 11)");
        x.swap(0, 2);
        Check.due("order", x.order(), 120L);
        Check.due("diameter", x.diameter(), 60);
        Check.refused(x, "solve", IllegalStateException.class, () -> x.solve());
        x.reset();
        for (int i = 0; i < 30; i++) {
            x.move(0);
            x.move(2);
        }
        Check.due("sixty moves", x.solve(), 60);
        Check.due("solution(0)", x.solution(0), 0);
        Check.due("solution(1)", x.solution(1), 2);
        Check.due("solution(58)", x.solution(58), 0);
        Check.due("solution(59)", x.solution(59), 2);
        Check.due("solution(60)", x.solution(60), StickerFoundry.NONE);
    }

    private static void solutions() {
        StickerFoundry x = Check.puzzle(4, "(0 1)", "(2 3)", "(0 1)", "(0 1)(2 3)");
        solves(x, List.of());
        x.move(0);
        solves(x, List.of(0));
        x.move(2);
        solves(x, List.of(6));
        x.move(4);
        solves(x, List.of(2));
        StickerFoundry y = Check.puzzle(6, "(0 1 2)", "(3 4)", "(5)");
        y.move(0);
        y.move(2);
        solves(y, List.of(1, 2));
        StickerFoundry z = Check.puzzle(4, "(0 1 2 3)");
        z.move(0);
        z.move(0);
        solves(z, List.of(0, 0));
        z.move(0);
        solves(z, List.of(0));
    }

    private static void solves(StickerFoundry x, List<Integer> moves) {
        List<Integer> row = Check.rowOf(x);
        Check.due("solve()", x.solve(), moves.size());
        Check.due("solution", Check.solutionOf(x), moves);
        Check.due("solve() keeps the arrangement", Check.rowOf(x), row);
        for (int i : new int[] {moves.size(), -1, 1499, 1500, Integer.MAX_VALUE, Integer.MIN_VALUE}) {
            Check.due("solution(" + i + ")", x.solution(i), StickerFoundry.NONE);
        }
    }

    private static void solutionStays() {
        StickerFoundry x = Check.puzzle(6, "(0 1 2)", "(3 4)");
        Check.due("before the first solve()", x.solution(0), StickerFoundry.NONE);
        x.move(0);
        x.move(2);
        x.solve();
        List<Integer> found = Check.solutionOf(x);
        x.swap(0, 1);
        Check.refused(x, "solve()", IllegalStateException.class, () -> x.solve());
        x.reset();
        x.move(1);
        Check.due("within(4)", x.within(4), 1);
        x.diameter();
        x.stickers(9);
        for (String turn : JUST_TOO_MANY) {
            Check.text(x, turn);
            x.turn();
        }
        Check.refused(x, "solve()", UnsupportedOperationException.class, () -> x.solve());
        Check.due("the solution found last", Check.solutionOf(x), found);
        x.stickers(2);
        Check.due("solve()", x.solve(), 0);
        Check.due("none now", x.solution(0), StickerFoundry.NONE);
    }

    private static void within() {
        StickerFoundry x = Check.puzzle(12, "(0 1 2 3 4 5 6 7 8 9 10 11)");
        for (int moves = 0; moves <= 12; moves++) {
            int distance = Math.min(moves, 12 - moves);
            for (int limit = 0; limit <= 4; limit++) {
                int wanted = distance <= limit ? distance : StickerFoundry.NONE;
                Check.due("within(" + limit + ") after " + moves, x.within(limit), wanted);
            }
            x.move(0);
        }
        for (int limit : new int[] {5, 6, -1, Integer.MAX_VALUE, Integer.MIN_VALUE}) {
            Check.refused(x, "within(" + limit + ")", IllegalArgumentException.class, () -> x.within(limit));
        }
        x.swap(0, 1);
        Check.due("not reachable", x.within(4), StickerFoundry.NONE);
        StickerFoundry none = Check.puzzle(3);
        Check.due("without turns", none.within(4), 0);
        none.swap(0, 1);
        Check.due("without turns, not solved", none.within(4), StickerFoundry.NONE);
    }

    private static void withinGreatPuzzles() {
        StickerFoundry x = Check.puzzle(12, "(0 1 2 3)", "(3 4 5 6)", "(6 7 8 9)", "(9 10 11)", "(0 11)");
        Check.due("order", x.order(), 479001600L);
        int[] moves = {0, 3, 4, 9};
        for (int i = 0; i < 4; i++) {
            x.move(moves[i]);
            Check.due("within(4) after " + (i + 1), x.within(4), i + 1);
            Check.due("within(" + i + ")", x.within(i), StickerFoundry.NONE);
        }
        x.move(6);
        Check.due("within(4) after five", x.within(4), StickerFoundry.NONE);
    }
}
