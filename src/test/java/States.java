import java.util.List;

/** States at the ends of what the document allows: few and many stickers, turns, characters and arrangements. */
final class States {
    /** A state with its numbers: what refuses numbers that there are not can be tested without asking. */
    record Named(String name, int stickers, int turns, State state) {
    }

    static final String FULL_TEXT = "0123456789 (abcdef) [ghijkl] {mnopqr} <stuv>~~ ~";
    static final String[] ALL_OF_SIX_AND_TWO = {"(0 1 2 3 4 5)", "(0 1)", "(6 7)"};
    static final String[] JUST_TOO_MANY = {"(1 2 4 3 6 7 5)", "(0 1)(2 3)(4 5)(6 7)", "(0 8)(2 5)(3 6)(4 7)",
        "(2 4 6)(3 5 7)"};
    static final String[] SIX_HUNDRED_SIXTY = {"(0 1 2 3 4 5 6 7 8 9 10)", "(1 3 9 5 4)(2 6 7 10 8)",
        "(11 0)(1 10)(2 5)(3 7)(4 8)(6 9)"};
    static final String[] ALL_OF_TWELVE = {"(0 1 2 3)", "(3 4 5 6)", "(6 7 8 9)", "(9 10 11)", "(0 11)"};

    private States() {
    }

    /** With at most some thousand reachable arrangements, so that PlainFoundry can make them all. */
    static List<Named> small() {
        return List.of(
            new Named("a new object", 1, 0, x -> { }),
            new Named("one sticker, five turns, full text", 1, 5, States::oneSticker),
            new Named("twelve stickers, no turns, not solved, an open cycle", 12, 0, States::withoutTurns),
            new Named("four stickers, reachable, a solution", 4, 2, States::square),
            new Named("six stickers, not reachable, a solution of another puzzle", 6, 2, States::notReachable),
            new Named("twelve stickers, 660 arrangements", 12, 3, States::sixHundredSixty),
            new Named("eight stickers, 1440 arrangements", 8, 3, States::justFewEnough),
            new Named("nine stickers, 1512 arrangements, not reachable", 9, 4, States::justTooMany));
    }

    /** With as many arrangements as there can be. */
    static List<Named> great() {
        return List.of(
            new Named("twelve stickers, five turns, all arrangements, full text", 12, 5, States::allOfTwelve));
    }

    /** A solution found before, so that it can be seen whether it stays. */
    static void solutionOfAnother(Foundry x) {
        x.puzzle(9, "(0 1 2 3 4 5 6 7 8)");
        x.moveAll(1, 1, 1, 1);
        x.solve();
    }

    static void oneSticker(Foundry x) {
        x.puzzle(1, "", "(0)", " ( 0 ) ", "(0)", "  ");
        x.text(FULL_TEXT);
        x.solve();
    }

    static void withoutTurns(Foundry x) {
        x.puzzle(12);
        x.swap(11, 0);
        x.swap(3, 4);
        x.text("(0 1");
    }

    static void square(Foundry x) {
        x.puzzle(4, "(0 1 2 3)", "(0 2)");
        x.moveAll(0, 0, 2);
        x.solve();
        x.move(1);
    }

    static void notReachable(Foundry x) {
        solutionOfAnother(x);
        x.puzzle(6, "(0 1 2)", "(3 4)");
        x.text("(3 4)(5 3)");
        x.swap(0, 5);
    }

    static void sixHundredSixty(Foundry x) {
        x.puzzle(12, SIX_HUNDRED_SIXTY);
        x.moveAll(0, 2, 4, 1);
        x.text(" (11 12)");
    }

    static void justFewEnough(Foundry x) {
        x.puzzle(8, ALL_OF_SIX_AND_TWO);
        x.moveAll(0, 2, 0, 4);
        x.solve();
        x.move(2);
    }

    static void justTooMany(Foundry x) {
        solutionOfAnother(x);
        x.puzzle(9, JUST_TOO_MANY);
        x.swap(0, 8);
    }

    static void allOfTwelve(Foundry x) {
        solutionOfAnother(x);
        x.puzzle(12, ALL_OF_TWELVE);
        x.moveAll(0, 3, 4, 9, 6);
        x.text(FULL_TEXT);
    }
}
