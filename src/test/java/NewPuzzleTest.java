import java.util.List;

/** Promises 1 (a new object) and 2 (stickers). */
public final class NewPuzzleTest {
    public static void main(String[] args) {
        newObject();
        newPuzzle();
        refusedSizes();
        textAndSolutionStay();
        Check.finish();
    }

    private static void newObject() {
        StickerFoundry x = new StickerFoundry();
        Check.due("NONE", StickerFoundry.NONE, -1);
        Check.due("stickers of a new object", Check.stickersOf(x), 1);
        Check.due("turns of a new object", x.turns(), 0);
        Check.due("text of a new object", x.character(0), 0);
        Check.no("its text has a character", x.cut(1));
        Check.due("its arrangement", Check.rowOf(x), List.of(0));
        Check.due("its solution", x.solution(0), StickerFoundry.NONE);
        Check.due("its order", x.order(), 1L);
        Check.due("its rank", x.rank(), 0L);
    }

    private static void newPuzzle() {
        StickerFoundry x = Check.puzzle(3, "(0 1 2)", "(0 1)");
        x.move(0);
        Check.yes("stickers(3) again", x.stickers(3));
        Check.due("turns of the new puzzle", x.turns(), 0);
        Check.due("it is solved", Check.rowOf(x), List.of(0, 1, 2));
        Check.due("its order", x.order(), 1L);
        Check.due("its orbit", x.orbit(0), 1);
        Check.due("its diameter", x.diameter(), 0);
        Check.due("its number at 1", x.atDistance(1), 0);
        Check.due("its classes", x.block(0, 1), StickerFoundry.NONE);
        for (int n = 1; n <= 12; n++) {
            Check.yes("stickers(" + n + ")", x.stickers(n));
            Check.due("stickers there are then", Check.stickersOf(x), n);
        }
    }

    private static void refusedSizes() {
        StickerFoundry x = Check.puzzle(4, "(0 1 2)");
        x.move(1);
        x.solve();
        for (int n : new int[] {0, -1, 13, 14, 16, Integer.MAX_VALUE, Integer.MIN_VALUE}) {
            Check.unchanged(x, "stickers(" + n + ")", () -> Check.no("stickers(" + n + ")", x.stickers(n)));
        }
    }

    private static void textAndSolutionStay() {
        StickerFoundry x = Check.puzzle(4, "(0 1 2 3)");
        x.move(0);
        x.move(0);
        Check.due("distance", x.solve(), 2);
        x.stickers(1);
        Check.due("text", Check.textOf(x), "(0 1 2 3)");
        Check.due("solution", Check.solutionOf(x), List.of(0, 0));
    }
}
