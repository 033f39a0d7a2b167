import java.util.Arrays;
import java.util.List;

/** Promise 24 (write), and what the terms say of writing in cycles. */
public final class WriteTest {
    public static void main(String[] args) {
        turns();
        arrangement();
        twoOrMorePlaces();
        leastPlaceFirst();
        inOrder();
        oneSpace();
        nothing();
        longest();
        inPlaceOfWhatItHas();
        itsLength();
        isReadAgain();
        restStays();
        noSuchTurn();
        Check.finish();
    }

    private static void writes(Foundry x, int t, String text) {
        Check.due("write(" + t + ")", x.write(t), text.length());
        Check.due("text of write(" + t + ")", x.readText(), text);
        Check.due("character behind it", x.character(text.length()), 0);
    }

    private static void turns() {
        Check.says("Promise 24", "WRITES turn t");
        Counted x = Counted.of(12, "(0 1)", "(2 3)", "(4 5)", "(6 7)", "(8 9)");
        x.move(2);
        writes(x, 0, "(0 1)");
        writes(x, 4, "(8 9)");
        writes(x, 2, "(4 5)");
        Counted y = Counted.of(3, "(0 1 2)");
        writes(y, 0, "(0 1 2)");
    }

    private static void arrangement() {
        Check.says("Promise 24", "or the arrangement (t is NONE)");
        Counted x = Counted.of(12, "(0 1 2)", "(2 11)");
        writes(x, -1, "");
        x.move(0);
        writes(x, -1, "(0 1 2)");
        x.move(2);
        writes(x, -1, "(0 1 11 2)");
        x.moveAll(3, 0);
        writes(x, -1, "(0 2 1)");
        x.swap(3, 10);
        writes(x, StickerFoundry.NONE, "(0 2 1)(3 10)");
        Check.says("Terms", "TO WRITE a turn or arrangement in cycles (an arrangement as that turn which makes it from the"
            + " solved one)");
        Counted y = Counted.of(4);
        y.swap(3, 0);
        y.swap(0, 1);
        writes(y, -1, "(0 3 1)");
    }

    private static void twoOrMorePlaces() {
        Check.says("Terms", "the cycles of two or more places");
        Counted x = Counted.of(12, "(0)(1 2)(3)", "(11)", "(0)(1)(2)(3)(4)(5)(6)(7)(8)(9)(10 11)", "(0 1)(2)");
        writes(x, 0, "(1 2)");
        writes(x, 1, "");
        writes(x, 2, "(10 11)");
        writes(x, 3, "(0 1)");
    }

    private static void leastPlaceFirst() {
        Check.says("Terms", "each beginning with its least place");
        Counted x = Counted.of(12, "(5 3 4)", "(11 10)", "(11 0 10)", "(1 0)", "(9 8 7 6 5 4 3 2 1 0)");
        writes(x, 0, "(3 4 5)");
        writes(x, 1, "(10 11)");
        writes(x, 2, "(0 10 11)");
        writes(x, 3, "(0 1)");
        writes(x, 4, "(0 9 8 7 6 5 4 3 2 1)");
    }

    private static void inOrder() {
        Check.says("Terms", "in the order of these, as they are read");
        Counted x = Counted.of(12, "(10 11)(2 9)(0 1)", "(3 11)(4 10)(5 9)(0 2 1)", "(9 2)(10 1)");
        writes(x, 0, "(0 1)(2 9)(10 11)");
        writes(x, 1, "(0 2 1)(3 11)(4 10)(5 9)");
        writes(x, 2, "(1 10)(2 9)");
    }

    private static void oneSpace() {
        Check.says("Terms", "with one space between two numbers and no others");
        Counted x = Counted.of(12, "  (  1   0 )   ( 11  3 )  ");
        writes(x, 0, "(0 1)(3 11)");
    }

    private static void nothing() {
        Check.says("Terms", "(nothing, if there are none)");
        for (int n : new int[] {1, 2, 12}) {
            Counted x = Counted.of(n, "", "(0)", " ");
            for (int t = -1; t < 3; t++) {
                x.text("(0)");
                writes(x, t, "");
                Check.no("cut(1)", x.cut(1));
            }
        }
        Counted x = Counted.of(3, "(0 1)");
        x.moveAll(0, 0);
        writes(x, -1, "");
    }

    private static void longest() {
        Check.says("Promise 24", "into the text in place of what it has");
        Counted x = Counted.of(12, "(0 1)(2 3)(4 5)(6 7)(8 9)(10 11)", "(0 1 2 3 4 5 6 7 8 9 10 11)");
        x.text(States.FULL_TEXT);
        writes(x, 0, "(0 1)(2 3)(4 5)(6 7)(8 9)(10 11)");
        writes(x, 1, "(0 1 2 3 4 5 6 7 8 9 10 11)");
        x.move(0);
        writes(x, -1, "(0 1)(2 3)(4 5)(6 7)(8 9)(10 11)");
        Check.yes("the text has 32", x.cut(32));
        Check.no("and no more", x.cut(33));
    }

    private static void inPlaceOfWhatItHas() {
        Check.says("Promise 24", "into the text in place of what it has");
        for (String text : new String[] {"", "x", "(0 1 2)", States.FULL_TEXT}) {
            Counted x = Counted.of(12, "(0 1)");
            x.text(text);
            writes(x, 0, "(0 1)");
            x.text(text);
            writes(x, -1, "");
            Check.yes("type behind it", x.type('!', 1));
            Check.due("text", x.readText(), "!");
        }
        Counted x = Counted.of(12, "(0 1)");
        x.text(States.FULL_TEXT);
        writes(x, 0, "(0 1)");
        Check.yes("there is room again", x.type(Foundry.bytes("(2 3 4) "), 8));
        Check.due("text", x.readText(), "(0 1)(2 3 4) ");
    }

    private static void itsLength() {
        Check.says("Promise 24", "its length.");
        Counted x = Counted.of(12, "", "(0 1)", "(0 10)", "(10 11)", "(0 1 2)(3 4)");
        int[] lengths = {0, 5, 6, 7, 12};
        for (int t = 0; t < 5; t++) {
            Check.due("write(" + t + ")", x.write(t), lengths[t]);
            Check.yes("so many", x.cut(lengths[t]));
            Check.no("no more", x.cut(lengths[t] + 1));
        }
    }

    private static void isReadAgain() {
        Check.says("Terms", "in the order of these, as they are read");
        Counted x = Counted.of(12, "(0 1 2 3 4 5 6 7 8 9 10 11)", "(0 11)(3 5)");
        x.moveAll(0, 2, 0, 2, 1, 2, 2, 0);
        x.write(-1);
        Check.due("turn() of what is written", x.turn(), 2);
        Check.due("its places", x.readTurn(2), x.readRow());
        x.write(0);
        x.turn();
        Check.due("turn 0 again", x.readTurn(3), x.readTurn(0));
    }

    private static void restStays() {
        Check.says("Promise 24", "WRITES turn t, or the arrangement (t is NONE), into the text");
        for (int t = -1; t < 2; t++) {
            Counted x = Counted.of(4, "(0 1 2)", "(2 3)");
            x.moveAll(0, 0);
            x.solve();
            x.write(t);
            Check.due("places", x.readRow(), List.of(2, 0, 1, 3));
            Check.due("turns", x.turns(), 2);
            Check.due("turn 0", x.readTurn(0), List.of(1, 2, 0, 3));
            Check.due("solution", x.readSolution(), List.of(0));
            Check.due("order", x.order(), 24L);
        }
    }

    private static void noSuchTurn() {
        Check.says("Terms", "turns and moves that there are not are refused with IndexOutOfBoundsException by all calls");
        String[] five = {"(0 1)", "(1 2)", "", "(3)", "(0 1 2 3)"};
        for (int turns = 0; turns <= 5; turns++) {
            String[] some = Arrays.copyOf(five, turns);
            for (int t = -1; t < turns; t++) {
                int number = t;
                Counted x = Counted.of(4, some);
                Check.due("write(" + t + ") of " + turns, Check.outcome(x, y -> y.write(number)), "nothing");
            }
            for (int t : new int[] {-2, turns, turns + 1, -3, 5, 6, Integer.MAX_VALUE, Integer.MIN_VALUE, 1 << 30,
                Integer.MIN_VALUE + 1}) {
                Check.refused(x -> {
                    x.puzzle(4, some);
                    x.text("(0 1)(2 3) ?");
                }, "write(" + t + ") of " + turns, IndexOutOfBoundsException.class, x -> x.write(t));
            }
        }
    }
}
