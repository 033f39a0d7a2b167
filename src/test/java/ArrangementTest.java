import java.util.List;

/** Promises 8 (move), 9 (swap), 10 (reset) and 11 (place). */
public final class ArrangementTest {
    public static void main(String[] args) {
        moves();
        refusedMoves();
        swaps();
        places();
        Check.finish();
    }

    private static void moves() {
        StickerFoundry x = Check.puzzle(4, "(0 1 2)", "(2 3)");
        x.move(0);
        Check.due("turn 0", Check.rowOf(x), List.of(1, 2, 0, 3));
        x.move(2);
        Check.due("then turn 1", Check.rowOf(x), List.of(1, 3, 0, 2));
        x.move(1);
        Check.due("then turn 0 backwards", Check.rowOf(x), List.of(0, 3, 2, 1));
        x.move(3);
        Check.due("then turn 1 backwards", Check.rowOf(x), List.of(0, 2, 3, 1));
        x.reset();
        Check.due("reset", Check.rowOf(x), List.of(0, 1, 2, 3));
        Check.due("turns stay", x.turns(), 2);
        x.move(1);
        Check.due("turn 0 backwards", Check.rowOf(x), List.of(2, 0, 1, 3));
    }

    private static void refusedMoves() {
        StickerFoundry x = Check.puzzle(4, "(0 1 2)", "(2 3)");
        x.move(2);
        for (int m : new int[] {4, 5, 10, -1, -2, Integer.MAX_VALUE, Integer.MIN_VALUE}) {
            Check.refused(x, "move(" + m + ")", IndexOutOfBoundsException.class, () -> x.move(m));
        }
        StickerFoundry none = Check.puzzle(4);
        Check.refused(none, "move(0)", IndexOutOfBoundsException.class, () -> none.move(0));
        x.stickers(4);
        Check.refused(x, "move(0)", IndexOutOfBoundsException.class, () -> x.move(0));
    }

    private static void swaps() {
        StickerFoundry x = Check.puzzle(4, "(0 1 2)");
        x.move(0);
        x.swap(0, 3);
        Check.due("the stickers at 0 and 3 change", Check.rowOf(x), List.of(1, 2, 3, 0));
        x.swap(1, 1);
        Check.due("one place", Check.rowOf(x), List.of(1, 2, 3, 0));
        x.swap(2, 1);
        Check.due("the stickers at 2 and 1 change", Check.rowOf(x), List.of(2, 1, 3, 0));
        int[][] bad = {{0, 4}, {4, 0}, {-1, 0}, {0, -1}, {4, 4}, {0, 12}, {Integer.MIN_VALUE, 0}, {0, Integer.MAX_VALUE}};
        for (int[] b : bad) {
            Check.refused(x, "swap", IndexOutOfBoundsException.class, () -> x.swap(b[0], b[1]));
        }
        x.stickers(12);
        x.swap(11, 0);
        Check.due("of twelve", Check.rowOf(x), List.of(11, 1, 2, 3, 4, 5, 6, 7, 8, 9, 10, 0));
    }

    private static void places() {
        StickerFoundry x = Check.puzzle(5, "(0 4)");
        x.move(0);
        Check.due("place(0)", x.place(0), 4);
        Check.due("place(4)", x.place(4), 0);
        Check.due("place(3)", x.place(3), 3);
        for (int s : new int[] {5, 11, 12, -1, Integer.MAX_VALUE, Integer.MIN_VALUE}) {
            Check.refused(x, "place(" + s + ")", IndexOutOfBoundsException.class, () -> x.place(s));
        }
    }
}
