import java.util.ArrayList;
import java.util.List;

/** Promises 1 (a new object) and 2 (stickers), and what the terms say of a puzzle and of its first arrangement. */
public final class NewPuzzleTest {
    private static final int[] NO_NUMBERS_OF_STICKERS = {0, 13, -1, 14, 16, 24, 1 + (1 << 8), 1 + (1 << 16),
        Integer.MAX_VALUE, Integer.MIN_VALUE, Integer.MIN_VALUE + 1};

    public static void main(String[] args) {
        newObject();
        objectsAreApart();
        atFirstSolved();
        eachNumberOfStickers();
        newPuzzle();
        asManyAgain();
        textStays();
        solutionStays();
        noSuchNumber();
        Check.finish();
    }

    private static void newObject() {
        Check.says("Promise 1", "One sticker, no turns, an empty text.");
        Check.due("NONE", StickerFoundry.NONE, -1);
        Counted x = new Counted();
        Check.due("its places", x.readRow(), List.of(0));
        Check.due("its turns", x.turns(), 0);
        Check.due("its text", x.character(0), 0);
        Check.no("cut(1)", x.cut(1));
        Check.yes("cut(0)", x.cut(0));
        Check.due("its solution", x.solution(0), -1);
        Check.due("its order", x.order(), 1L);
        Check.yes("it is reachable", x.reachable());
        Check.due("its rank", x.rank(), 0L);
        Check.due("its orbit", x.orbit(0), 1);
        Check.yes("place 0 is in it", x.inOrbit(0, 0));
        Check.due("its class", x.block(0, 0), 0);
        Check.due("its diameter", x.diameter(), 0);
        Check.due("at distance 0", x.atDistance(0), 1);
        Check.due("at distance 1", x.atDistance(1), 0);
        Check.due("within(0)", x.within(0), 0);
        Check.due("solve()", x.solve(), 0);
        Check.due("its arrangement in cycles", x.write(-1), 0);
        Check.due("turn() of the empty text", x.turn(), 0);
    }

    private static void objectsAreApart() {
        Check.says("Promise 1", "One sticker, no turns, an empty text.");
        Counted x = Counted.in(States::square);
        Counted y = new Counted();
        Check.due("places of another object", y.readRow(), List.of(0));
        Check.due("its turns", y.turns(), 0);
        Check.due("its text", y.readText(), "");
        Check.due("its solution", y.readSolution(), List.of());
        y.puzzle(9, "(0 8)");
        Check.due("the first one's text", x.readText(), "(0 2)");
        Check.due("its order", x.order(), 8L);
    }

    private static void atFirstSolved() {
        Check.says("Terms", "There is one on the table, at first solved.");
        for (int n = 1; n <= 12; n++) {
            Counted x = Counted.of(n);
            Check.due("places", x.readRow(), solved(n));
            Check.due("within(0)", x.within(0), 0);
        }
    }

    private static List<Integer> solved(int n) {
        List<Integer> row = new ArrayList<>();
        for (int s = 0; s < n; s++) {
            row.add(s);
        }
        return row;
    }

    private static void eachNumberOfStickers() {
        Check.says("Terms", "A PUZZLE has n STICKERS, 0 .. n - 1 (n is 1 .. 12), and PLACES 0 .. n - 1");
        for (int n = 1; n <= 12; n++) {
            int last = n - 1;
            Counted x = new Counted();
            Check.yes("stickers(" + n + ")", x.stickers(n));
            Check.due("place of the last", x.place(last), last);
            Check.due("orbit of the last", x.orbit(last), 1);
            x.swap(0, last);
            Check.due("swapped with the first", x.place(last), 0);
            Check.due("one more", Check.outcome(x, y -> y.place(last + 1)), "IndexOutOfBoundsException");
            Check.due("one less", Check.outcome(x, y -> y.place(-1)), "IndexOutOfBoundsException");
        }
    }

    private static void newPuzzle() {
        Check.says("Promise 2", "A new puzzle with n stickers, without turns, solved");
        for (States.Named named : States.small()) {
            for (int n = 1; n <= 12; n++) {
                Counted x = Counted.in(named.state());
                Check.yes("stickers(" + n + ")", x.stickers(n));
                Check.due("its places", x.readRow(), solved(n));
                Check.due("its turns", x.turns(), 0);
                Check.due("its order", x.order(), 1L);
                Check.due("its diameter", x.diameter(), 0);
            }
        }
        Counted x = Counted.in(States::allOfTwelve);
        Check.yes("stickers(12) after the greatest", x.stickers(12));
        Check.due("its order", x.order(), 1L);
        Check.due("its orbit", x.orbit(0), 1);
        Check.due("its turns", x.turns(), 0);
        Check.due("move(0)", Check.outcome(x, y -> y.move(0)), "IndexOutOfBoundsException");
        Check.due("image(0, 0)", Check.outcome(x, y -> y.image(0, 0)), "IndexOutOfBoundsException");
    }

    private static void asManyAgain() {
        Check.says("Promise 2", "A new puzzle with n stickers, without turns, solved");
        State before = x -> {
            x.puzzle(4, "(0 1 2)", "(0 1)");
            x.move(0);
            x.diameter();
            x.stickers(4);
            x.text("");
        };
        Check.nothingChanges(before, "stickers(4) of four", x -> Check.yes("stickers(4)", x.stickers(4)));
        Counted x = Counted.in(before);
        Check.due("its diameter", x.diameter(), 0);
        Check.due("at distance 1", x.atDistance(1), 0);
        Check.due("its classes", x.block(0, 1), -1);
    }

    private static void textStays() {
        Check.says("Promise 2", "(the text and the solution found last stay)");
        for (String text : new String[] {"", "(0 1 2 3)", "?", States.FULL_TEXT}) {
            Counted x = Counted.of(4, "(0 1)");
            x.text(text);
            Check.yes("stickers(1)", x.stickers(1));
            Check.yes("stickers(12)", x.stickers(12));
            Check.due("the text", x.readText(), text);
        }
        Counted x = Counted.of(3);
        x.text("(3 2 1 0)");
        x.stickers(4);
        Check.due("the text is a turn of the new puzzle", x.turn(), 0);
    }

    private static void solutionStays() {
        Check.says("Promise 2", "(the text and the solution found last stay)");
        Counted x = Counted.of(8, "(0 1 2 3 4 5 6 7)");
        x.moveAll(1, 1, 1);
        Check.due("solve()", x.solve(), 3);
        Check.yes("stickers(1)", x.stickers(1));
        Check.due("the solution", x.readSolution(), List.of(0, 0, 0));
        Check.yes("stickers(12)", x.stickers(12));
        Check.due("the solution", x.readSolution(), List.of(0, 0, 0));
    }

    private static void noSuchNumber() {
        Check.says("Promise 2", "False, changing nothing, when n is not 1 .. 12.");
        for (States.Named named : States.small()) {
            for (int n : NO_NUMBERS_OF_STICKERS) {
                Check.isFalse(named.state(), "stickers(" + n + "): " + named.name(), x -> x.stickers(n));
            }
        }
        for (int n : NO_NUMBERS_OF_STICKERS) {
            Check.isFalse(States::allOfTwelve, "stickers(" + n + ") of the greatest", x -> x.stickers(n));
        }
    }
}
