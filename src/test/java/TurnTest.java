import java.util.List;

/** Promises 5 (turn), 6 (turns), 7 (image) and 24 (write). */
public final class TurnTest {
    public static void main(String[] args) {
        readCycles();
        notInCycles();
        noPlaces();
        placesTwice();
        fiveTurns();
        firstNamedFirst();
        afterRefusal();
        arrangementAndTextStay();
        images();
        writeTurns();
        writeArrangements();
        refusedWrites();
        Check.finish();
    }

    private static void readCycles() {
        reads("(0 1 2)", List.of(1, 2, 0, 3, 4, 5, 6, 7, 8, 9, 10, 11));
        reads("  (  3   4 )  ( 5 )  (11   10 0)  ", List.of(11, 1, 2, 4, 3, 5, 6, 7, 8, 9, 0, 10));
        reads("", List.of(0, 1, 2, 3, 4, 5, 6, 7, 8, 9, 10, 11));
        reads("   ", List.of(0, 1, 2, 3, 4, 5, 6, 7, 8, 9, 10, 11));
        reads("(7)(3)", List.of(0, 1, 2, 3, 4, 5, 6, 7, 8, 9, 10, 11));
        reads("(11 9 7 5 3 1)(0 2 4 6 8 10)", List.of(2, 11, 4, 1, 6, 3, 8, 5, 10, 7, 0, 9));
        reads("(0)(1)(2)(3)(4)(5)(6)(7)(8)(9)(10 11)", List.of(0, 1, 2, 3, 4, 5, 6, 7, 8, 9, 11, 10));
    }

    private static void reads(String text, List<Integer> row) {
        StickerFoundry x = Check.puzzle(12);
        Check.text(x, text);
        Check.due("turn() of " + text, x.turn(), 0);
        Check.due("turns()", x.turns(), 1);
        Check.due("turn " + text, Check.turnOf(x, 0), row);
    }

    private static void notInCycles() {
        String[] texts = {"(", ")", "()", "( )", "(0", "0)", "0", "(0 1", "(0 1))", "((0 1)", "(0 (1))", "(0)1", "1(0)",
            "(00)", "(01)", "(0 01)", "(100)", "(1 111)", "(0,1)", "(0;1)", "(a)", "(-1)", "(+1)", "(0.1)", "[0 1]",
            "(0 1)x", "x", "(0 1)()", "()(0 1)", "(0 1)(", "(0 1) )", "(0/1)", "(0:1)", "(0 1~", "(1000)", "(000)"};
        for (String text : texts) {
            refused(12, text, IllegalArgumentException.class);
        }
    }

    private static void refused(int stickers, String text, Class<? extends RuntimeException> why, String... turns) {
        StickerFoundry x = Check.puzzle(stickers, turns);
        Check.text(x, text);
        Check.refused(x, "turn() of " + text, why, () -> x.turn());
    }

    private static void noPlaces() {
        refused(12, "(12)", IndexOutOfBoundsException.class);
        refused(12, "(0 1)(99)", IndexOutOfBoundsException.class);
        refused(6, "(6 0)", IndexOutOfBoundsException.class);
        refused(6, "(0 10)", IndexOutOfBoundsException.class);
        refused(1, "(1)", IndexOutOfBoundsException.class);
        refused(6, "(16)", IndexOutOfBoundsException.class);
    }

    private static void placesTwice() {
        refused(6, "(0 0)", IllegalStateException.class);
        refused(6, "(0)(0)", IllegalStateException.class);
        refused(6, "(0 1 2)(3 4 1)", IllegalStateException.class);
        refused(12, "(11 1)(10 11)", IllegalStateException.class);
        refused(1, "(0 0 0 0 0 0 0 0 0 0 0 0 0 0 0 0 0 0 0 0 0 0 0)", IllegalStateException.class);
    }

    private static void fiveTurns() {
        StickerFoundry x = Check.puzzle(3);
        Check.text(x, "(0 1)");
        for (int t = 0; t < 5; t++) {
            Check.due("turns()", x.turns(), t);
            Check.due("turn()", x.turn(), t);
        }
        Check.refused(x, "the sixth", UnsupportedOperationException.class, () -> x.turn());
        Check.due("turns()", x.turns(), 5);
        x.stickers(3);
        Check.due("turn() of a new puzzle", x.turn(), 0);
    }

    private static void firstNamedFirst() {
        String[] five = {"(0 1)", "(0 1)", "", "(2)", "(1 2)"};
        refused(3, "(5)(0 0", IllegalArgumentException.class, five);
        refused(3, "(0 0)(5)(5)", IndexOutOfBoundsException.class, five);
        refused(3, "(5 5)", IndexOutOfBoundsException.class);
        refused(3, "(0 0)(5", IllegalArgumentException.class);
        refused(3, "(0 0)", IllegalStateException.class, five);
        refused(3, "(5)", IndexOutOfBoundsException.class, five);
        refused(3, "(0", IllegalArgumentException.class, five);
        refused(3, "(0)", UnsupportedOperationException.class, five);
    }

    private static void afterRefusal() {
        StickerFoundry x = Check.puzzle(4);
        Check.text(x, "(0 1)(2 3");
        Check.refused(x, "turn() of an open cycle", IllegalArgumentException.class, () -> x.turn());
        x.type(')', 1);
        Check.due("turn() of the closed one", x.turn(), 0);
        Check.due("the turn", Check.turnOf(x, 0), List.of(1, 0, 3, 2));
    }

    private static void arrangementAndTextStay() {
        StickerFoundry x = Check.puzzle(4, "(0 1 2)");
        x.move(0);
        Check.text(x, " (2 3) ");
        Check.due("turn()", x.turn(), 1);
        Check.due("arrangement", Check.rowOf(x), List.of(1, 2, 0, 3));
        Check.due("text", Check.textOf(x), " (2 3) ");
        Check.due("first turn", Check.turnOf(x, 0), List.of(1, 2, 0, 3));
    }

    private static void images() {
        StickerFoundry x = Check.puzzle(3, "(0 1 2)", "(1 2)");
        Check.due("image(0, 2)", x.image(0, 2), 0);
        Check.due("image(1, 2)", x.image(1, 2), 1);
        Check.due("image(1, 0)", x.image(1, 0), 0);
        int[][] bad = {{2, 0}, {-1, 0}, {0, 3}, {0, -1}, {5, 0}, {Integer.MAX_VALUE, 0}, {0, Integer.MIN_VALUE},
            {0, 12}, {1 << 30, 0}};
        for (int[] b : bad) {
            Check.refused(x, "image", IndexOutOfBoundsException.class, () -> x.image(b[0], b[1]));
        }
    }

    private static void writeTurns() {
        StickerFoundry x = Check.puzzle(12, " ( 5 3 4) (2) (1 0)", "", "(11 10)(9 8 7 6 5 4 3 2 1 0)",
            "(0 1)(2 3)(4 5)(6 7)(8 9)(10 11)", "(11 0 10)");
        writes(x, 0, "(0 1)(3 4 5)");
        writes(x, 1, "");
        writes(x, 2, "(0 9 8 7 6 5 4 3 2 1)(10 11)");
        writes(x, 3, "(0 1)(2 3)(4 5)(6 7)(8 9)(10 11)");
        writes(x, 4, "(0 10 11)");
        writes(x, StickerFoundry.NONE, "");
    }

    private static void writes(StickerFoundry x, int t, String text) {
        Check.due("write(" + t + ")", x.write(t), text.length());
        Check.due("text of write(" + t + ")", Check.textOf(x), text);
        Check.due("character behind it", x.character(text.length()), 0);
    }

    private static void writeArrangements() {
        StickerFoundry x = Check.puzzle(12, "(0 1 2)");
        x.move(0);
        writes(x, -1, "(0 1 2)");
        x.move(0);
        writes(x, -1, "(0 2 1)");
        x.swap(3, 11);
        x.swap(10, 11);
        writes(x, -1, "(0 2 1)(3 10 11)");
        Check.text(x, "0123456789012345678901234567890123456789abcdefgh");
        writes(x, -1, "(0 2 1)(3 10 11)");
        Check.due("what is written is read", x.turn(), 1);
        Check.due("and is the arrangement", Check.turnOf(x, 1), Check.rowOf(x));
    }

    private static void refusedWrites() {
        StickerFoundry x = Check.puzzle(4, "(0 1 2)", "(1 2)");
        for (int t : new int[] {2, 3, -2, Integer.MAX_VALUE, Integer.MIN_VALUE, 1 << 30}) {
            Check.refused(x, "write(" + t + ")", IndexOutOfBoundsException.class, () -> x.write(t));
        }
    }
}
