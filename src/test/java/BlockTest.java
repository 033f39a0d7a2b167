/** Promise 18 (block). */
public final class BlockTest {
    public static void main(String[] args) {
        classes();
        refusedBlocks();
        Check.finish();
    }

    private static void classes() {
        String[] square = {"(0 1 2 3)", "(0 2)"};
        classesAre(4, 0, "0 1 2 3", square);
        classesAre(4, 1, "0 0 0 0", square);
        classesAre(4, 2, "0 1 0 1", square);
        classesAre(4, 3, "0 0 0 0", square);
        String[] six = {"(0 1 2 3 4 5)"};
        classesAre(6, 3, "0 1 2 0 1 2", six);
        classesAre(6, 2, "0 1 0 1 0 1", six);
        classesAre(6, 4, "0 1 0 1 0 1", six);
        classesAre(6, 5, "0 0 0 0 0 0", six);
        String[] apart = {"(1 3 5 7)(2 4)", "(8 9)"};
        classesAre(10, 0, "0 - - - - - - - - -", apart);
        classesAre(10, 1, "- 1 - 3 - 5 - 7 - -", apart);
        classesAre(10, 5, "- 1 - 3 - 1 - 3 - -", apart);
        classesAre(10, 7, "- 1 - 1 - 1 - 1 - -", apart);
        classesAre(10, 4, "- - 2 - 2 - - - - -", apart);
        classesAre(10, 9, "- - - - - - - - 8 8", apart);
        classesAre(10, 6, "- - - - - - 6 - - -", apart);
        classesAre(12, 11, "- 1 2 3 - - - - - 3 2 1", "(1 2 3)(11 10 9)", "(1 11)(2 10)(3 9)");
        classesAre(3, 1, "- 1 -");
    }

    /** Each sticker's class by its least one, - for NONE. */
    private static void classesAre(int stickers, int j, String wanted, String... turns) {
        StickerFoundry x = Check.puzzle(stickers, turns);
        x.swap(0, 1);
        StringBuilder got = new StringBuilder();
        for (int s = 0; s < stickers; s++) {
            int least = x.block(j, s);
            got.append(s > 0 ? " " : "").append(least == StickerFoundry.NONE ? "-" : Integer.toString(least));
        }
        Check.due("classes for " + j + " of " + String.join(", ", turns), got.toString(), wanted);
    }

    private static void refusedBlocks() {
        StickerFoundry x = Check.puzzle(5, "(0 1 2)");
        for (int k : new int[] {5, 11, 12, -1, Integer.MAX_VALUE, Integer.MIN_VALUE}) {
            Check.refused(x, "block(" + k + ", 0)", IndexOutOfBoundsException.class, () -> x.block(k, 0));
            Check.refused(x, "block(0, " + k + ")", IndexOutOfBoundsException.class, () -> x.block(0, k));
            Check.refused(x, "block(" + k + ", 4)", IndexOutOfBoundsException.class, () -> x.block(k, 4));
        }
    }
}
