/** Promise 18 (block), and what the terms say of classes. */
public final class BlockTest {
    private static final String[] SQUARE = {"(0 1 2 3)", "(0 2)"};
    private static final String[] SIX = {"(0 1 2 3 4 5)"};
    private static final String[] APART = {"(1 3 5 7)(2 4)", "(8 9)"};

    public static void main(String[] args) {
        classes();
        asSmallAsCanBe();
        allInOneClass();
        orbitOfOne();
        notInTheOrbit();
        leastIsNotZero();
        arrangementDoesNotMatter();
        noSuchSticker();
        Check.finish();
    }

    /** Each sticker's class by its least one, - for NONE. */
    private static void classesAre(int stickers, int j, String wanted, String... turns) {
        Check.due("classes for " + j + " of " + String.join(", ", turns),
            classesOf(Counted.of(stickers, turns), stickers, j), wanted);
    }

    private static String classesOf(Foundry x, int stickers, int j) {
        StringBuilder got = new StringBuilder();
        for (int s = 0; s < stickers; s++) {
            int least = x.block(j, s);
            got.append(s > 0 ? " " : "").append(least == StickerFoundry.NONE ? "-" : Integer.toString(least));
        }
        return got.toString();
    }

    private static void classes() {
        Check.says("Terms", "so that every turn takes all of a class to all of a class, j and l are in one class");
        classesAre(4, 2, "0 1 0 1", SQUARE);
        classesAre(6, 3, "0 1 2 0 1 2", SIX);
        classesAre(6, 2, "0 1 0 1 0 1", SIX);
        classesAre(6, 4, "0 1 0 1 0 1", SIX);
        classesAre(12, 6, "0 1 2 3 4 5 0 1 2 3 4 5", "(0 1 2 3 4 5 6 7 8 9 10 11)");
        classesAre(12, 9, "0 1 2 0 1 2 0 1 2 0 1 2", "(0 1 2 3 4 5 6 7 8 9 10 11)");
        classesAre(12, 8, "0 1 2 3 0 1 2 3 0 1 2 3", "(0 1 2 3 4 5 6 7 8 9 10 11)");
        classesAre(12, 10, "0 1 0 1 0 1 0 1 0 1 0 1", "(0 1 2 3 4 5 6 7 8 9 10 11)");
    }

    private static void asSmallAsCanBe() {
        Check.says("Terms", "and of all such partings the classes are as small as can be (there is one with the most");
        classesAre(4, 0, "0 1 2 3", SQUARE);
        classesAre(6, 0, "0 1 2 3 4 5", SIX);
        classesAre(12, 0, "0 1 2 3 4 5 6 7 8 9 10 11", States.ALL_OF_TWELVE);
        classesAre(10, 1, "- 1 - 3 - 5 - 7 - -", APART);
    }

    private static void allInOneClass() {
        Check.says("Terms", "so that every turn takes all of a class to all of a class, j and l are in one class");
        classesAre(4, 1, "0 0 0 0", SQUARE);
        classesAre(4, 3, "0 0 0 0", SQUARE);
        classesAre(6, 5, "0 0 0 0 0 0", SIX);
        classesAre(2, 1, "0 0", "(0 1)");
        classesAre(12, 11, "0 0 0 0 0 0 0 0 0 0 0 0", States.ALL_OF_TWELVE);
        classesAre(12, 11, "0 0 0 0 0 0 0 0 0 0 0 0", "(0 1 2 3 4 5 6 7 8 9 10 11)");
    }

    private static void orbitOfOne() {
        Check.says("Terms", "the orbit of j (FIXING none) has a least place l");
        Check.due("a new object", new Counted().block(0, 0), 0);
        Check.due("one sticker, five turns", Counted.in(States::oneSticker).block(0, 0), 0);
        for (int j = 0; j < 12; j++) {
            Counted x = Counted.of(12);
            for (int s = 0; s < 12; s++) {
                Check.due("block(" + j + ", " + s + ") without turns", x.block(j, s), s == j ? j : -1);
            }
        }
        classesAre(10, 0, "0 - - - - - - - - -", APART);
        classesAre(10, 6, "- - - - - - 6 - - -", APART);
    }

    private static void notInTheOrbit() {
        Check.says("Promise 18", "NONE when s is not in the orbit of j.");
        classesAre(10, 9, "- - - - - - - - 8 8", APART);
        classesAre(3, 1, "- 1 -");
        classesAre(12, 11, "- - - - - - - - - - 10 10", "(10 11)");
        classesAre(12, 0, "0 - - - - - - - - - - -", "(1 2 3 4 5 6 7 8 9 10 11)");
        classesAre(12, 0, "0 1 - - - - - - - - - -", "(0 1)", "(2 3)");
    }

    private static void leastIsNotZero() {
        Check.says("Promise 18", "the least sticker of the class in which s is");
        classesAre(10, 5, "- 1 - 3 - 1 - 3 - -", APART);
        classesAre(10, 7, "- 1 - 1 - 1 - 1 - -", APART);
        classesAre(10, 4, "- - 2 - 2 - - - - -", APART);
        classesAre(12, 11, "- 1 2 3 - - - - - 3 2 1", "(1 2 3)(11 10 9)", "(1 11)(2 10)(3 9)");
    }

    private static void arrangementDoesNotMatter() {
        Check.says("Promise 18", "The CLASSES for sticker j");
        Counted x = Counted.of(4, SQUARE);
        x.swap(0, 1);
        Check.due("not reachable", classesOf(x, 4, 2), "0 1 0 1");
        x.reset();
        x.move(0);
        Check.due("moved", classesOf(x, 4, 2), "0 1 0 1");
        Check.onlyAnswers(States::allOfTwelve, "block(11, 5)", 0, y -> y.block(11, 5));
        Check.onlyAnswers(States::notReachable, "block(0, 5)", -1, y -> y.block(0, 5));
        x.text("(0 1)");
        x.turn();
        Check.due("with a turn more", classesOf(x, 4, 2), "0 0 0 0");
    }

    private static void noSuchSticker() {
        Check.says("Terms", "Numbers of stickers, places, turns and moves that there are not are refused");
        for (int n : new int[] {1, 5, 12}) {
            State state = x -> x.puzzle(n, "(0)");
            for (int k : new int[] {n, -1, n + 1, 12, 16, -12, Integer.MAX_VALUE, Integer.MIN_VALUE}) {
                Class<IndexOutOfBoundsException> why = IndexOutOfBoundsException.class;
                Check.refused(state, "block(" + k + ", 0) of " + n, why, x -> x.block(k, 0));
                Check.refused(state, "block(0, " + k + ") of " + n, why, x -> x.block(0, k));
                Check.refused(state, "block(" + (n - 1) + ", " + k + ") of " + n, why, x -> x.block(n - 1, k));
                Check.refused(state, "block(" + k + ", " + k + ") of " + n, why, x -> x.block(k, k));
            }
        }
    }
}
