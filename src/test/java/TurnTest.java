import java.util.Arrays;
import java.util.List;

/** Promises 5 (turn), 6 (turns) and 7 (image). */
public final class TurnTest {
    private static final String[] FIVE = {"(0 1)", "(0 1)", "", "(2)", "(1 2)"};

    public static void main(String[] args) {
        itsNumber();
        textStays();
        arrangementStays();
        solutionStays();
        notInCycles();
        noPlace();
        twice();
        fiveTurns();
        fiveTurnsOfANewPuzzle();
        firstNamed();
        afterRefusal();
        howMany();
        images();
        noSuchTurnOrPlace();
        Check.finish();
    }

    private static void itsNumber() {
        Check.says("Terms", "and at most five TURNS, 0, 1, .. .");
        for (int n : new int[] {1, 2, 11, 12}) {
            Counted x = Counted.of(n);
            x.text("(" + (n - 1) + ")");
            for (int t = 0; t < 5; t++) {
                Check.due("turn() of " + n + " stickers", x.turn(), t);
            }
        }
        Check.says("Promise 5", "The text (which stays), in cycles, is a turn more: its number.");
        Counted x = Counted.of(3, "(0 1)", "(0 1 2)", "(0 1)", "");
        Check.due("turn 0", x.readTurn(0), List.of(1, 0, 2));
        Check.due("turn 1", x.readTurn(1), List.of(1, 2, 0));
        Check.due("the same again", x.readTurn(2), List.of(1, 0, 2));
        Check.due("turn 3", x.readTurn(3), List.of(0, 1, 2));
    }

    private static void textStays() {
        Check.says("Promise 5", "The text (which stays)");
        for (String text : new String[] {"", " ", "(2)", " ( 2   1 ) (0 3)  ", "(0 1)" + " ".repeat(43)}) {
            Counted x = Counted.of(4);
            x.text(text);
            x.turn();
            Check.due("text", x.readText(), text);
            Check.due("turn() again", x.turn(), 1);
            Check.due("is the same", x.readTurn(1), x.readTurn(0));
        }
    }

    private static void arrangementStays() {
        Check.says("Promise 5", "(The arrangement stays as it is.)");
        Counted x = Counted.of(4, "(0 1 2)");
        x.move(0);
        x.text("(2 3)");
        x.turn();
        Check.due("reachable", x.readRow(), List.of(1, 2, 0, 3));
        x.reset();
        x.swap(0, 3);
        x.text("(1 2)");
        x.turn();
        Check.due("not made by the turn", x.readRow(), List.of(3, 1, 2, 0));
        Counted y = Counted.of(12);
        y.swap(0, 11);
        Check.no("reachable without turns", y.reachable());
        y.text("(11 0)");
        y.turn();
        Check.due("with one", y.readRow(), List.of(11, 1, 2, 3, 4, 5, 6, 7, 8, 9, 10, 0));
        Check.yes("reachable with it", y.reachable());
    }

    private static void solutionStays() {
        Check.says("Promise 22", "Move i of the solution that was found last (the puzzle may be another one now)");
        Counted x = Counted.of(5, "(0 1 2 3 4)");
        x.moveAll(1, 1);
        x.solve();
        x.text("(0 1)");
        x.turn();
        Check.due("the solution after a turn more", x.readSolution(), List.of(0, 0));
    }

    private static void notInCycles() {
        Check.says("Promise 5", "IllegalArgumentException when it is not in cycles");
        for (String text : new String[] {"(", ")", "()", "0", "(0", "(01)", "(100)", "(0,1)", "(0 1)x"}) {
            for (int n : new int[] {1, 12}) {
                refused(n, text, IllegalArgumentException.class);
            }
        }
        Check.refused(States::withoutTurns, "an open cycle", IllegalArgumentException.class, x -> x.turn());
        Check.refused(States::allOfTwelve, "a full text", IllegalArgumentException.class, x -> x.turn());
    }

    private static void refused(int stickers, String text, Class<? extends RuntimeException> why, String... turns) {
        Check.refused(x -> {
            States.solutionOfAnother(x);
            x.puzzle(stickers, turns);
            x.text(text);
            x.swap(0, stickers - 1);
        }, "turn() of '" + text + "' with " + stickers + " stickers and " + turns.length + " turns", why, x -> x.turn());
    }

    private static void noPlace() {
        Check.says("Promise 5", "IndexOutOfBoundsException when a number is no place");
        for (int n = 1; n <= 12; n++) {
            Counted x = Counted.of(n);
            x.text("(" + (n - 1) + ")");
            Check.due("turn() with the last place of " + n, x.turn(), 0);
            refused(n, "(" + n + ")", IndexOutOfBoundsException.class);
            refused(n, "(" + (n + 1) + ")", IndexOutOfBoundsException.class);
            refused(n, "(0)(99)", IndexOutOfBoundsException.class);
            refused(n, "(99 0)", IndexOutOfBoundsException.class);
            refused(n, "(0 " + n + ")", IndexOutOfBoundsException.class);
        }
        refused(12, "(0 1)(2 3 12)(4 5)", IndexOutOfBoundsException.class);
        refused(12, "(16 17)", IndexOutOfBoundsException.class);
        refused(3, "(0 1)(10 2)", IndexOutOfBoundsException.class);
    }

    private static void twice() {
        Check.says("Promise 5", "IllegalStateException when a place is there twice");
        for (int n : new int[] {1, 2, 12}) {
            int last = n - 1;
            refused(n, "(0 0)", IllegalStateException.class);
            refused(n, "(0)(0)", IllegalStateException.class);
            refused(n, "(" + last + ")( " + last + ")", IllegalStateException.class);
            refused(n, "(0)(0)(0)", IllegalStateException.class);
        }
        refused(6, "(0 1 0)", IllegalStateException.class);
        refused(6, "(0 1 2)(3 4 1)", IllegalStateException.class);
        refused(6, "(0 1)(0 1)", IllegalStateException.class);
        refused(12, "(11 1)(10 11)", IllegalStateException.class);
        refused(12, "(0 1 2 3 4 5 6 7 8 9 10 11 0)", IllegalStateException.class);
        refused(1, "(0 0 0 0 0 0 0 0 0 0 0 0 0 0 0 0 0 0 0 0 0 0 0)", IllegalStateException.class);
        refused(1, "(0)(0)(0)(0)(0)(0)(0)(0)(0)(0)(0)(0)(0)(0)(0)(0)", IllegalStateException.class);
        Counted x = Counted.of(12);
        x.text("(1 11)(0 10)");
        Check.due("1 and 11 are two", x.turn(), 0);
    }

    private static void fiveTurns() {
        Check.says("Promise 5", "UnsupportedOperationException when there are five turns.");
        Counted x = Counted.of(3, "(0 1)", "(0 1)", "", "(2)");
        x.text("(1 2)");
        Check.due("the fifth", x.turn(), 4);
        Check.due("its places", x.readTurn(4), List.of(0, 2, 1));
        for (String text : new String[] {"", " ", "(0)", "(0 1)", "(0 1 2)"}) {
            refused(3, text, UnsupportedOperationException.class, FIVE);
        }
        refused(1, "", UnsupportedOperationException.class, "", "", "", "", "");
        refused(12, "(0 1)", UnsupportedOperationException.class, States.ALL_OF_TWELVE);
        refused(12, "(10 11)", UnsupportedOperationException.class, "(0 1)", "(0 1)", "(0 1)", "(0 1)", "(0 1)");
    }

    private static void fiveTurnsOfANewPuzzle() {
        Check.says("Promise 5", "UnsupportedOperationException when there are five turns.");
        Counted x = Counted.of(3, FIVE);
        x.stickers(3);
        for (int t = 0; t < 5; t++) {
            Check.due("turn() of a new puzzle", x.turn(), t);
        }
        Check.due("the sixth", Check.answer(x, y -> y.turn()), "UnsupportedOperationException");
    }

    private static void firstNamed() {
        Check.says("Terms", "where several exceptions that a call names fit, it is the one that it names first");
        refused(3, "(0 0)(5", IllegalArgumentException.class, FIVE);
        refused(3, "(0 0)(5", IllegalArgumentException.class);
        refused(3, "(5)(", IllegalArgumentException.class, FIVE);
        refused(3, "(5)x", IllegalArgumentException.class);
        refused(3, "(5 100)", IllegalArgumentException.class);
        refused(3, "(0 0) 1", IllegalArgumentException.class, FIVE);
        refused(3, "(0 0)()", IllegalArgumentException.class);
        refused(3, "(0", IllegalArgumentException.class, FIVE);
        refused(3, "(0 0)(5)(5)", IndexOutOfBoundsException.class, FIVE);
        refused(3, "(0 0)(5)", IndexOutOfBoundsException.class);
        refused(3, "(5 5)", IndexOutOfBoundsException.class);
        refused(3, "(5)", IndexOutOfBoundsException.class, FIVE);
        refused(3, "(0 0)", IllegalStateException.class, FIVE);
        refused(3, "(0)", UnsupportedOperationException.class, FIVE);
    }

    private static void afterRefusal() {
        Check.says("Terms", "A call that throws changes nothing");
        Counted x = Counted.of(4);
        x.text("(0 1)(2 3");
        Check.due("turn() of an open cycle", Check.answer(x, y -> y.turn()), "IllegalArgumentException");
        x.type(')', 1);
        Check.due("turn() of the closed one", x.turn(), 0);
        Check.due("its places", x.readTurn(0), List.of(1, 0, 3, 2));
        x.text("(0 1)(4)");
        Check.due("turn() with no place", Check.answer(x, y -> y.turn()), "IndexOutOfBoundsException");
        x.cut(5);
        Check.due("turn() without it", x.turn(), 1);
        x.text("(0 1)(2 1)");
        Check.due("turn() with one twice", Check.answer(x, y -> y.turn()), "IllegalStateException");
        x.text("(3 1)");
        Check.due("turn() without it", x.turn(), 2);
        Check.due("its places", x.readTurn(2), List.of(0, 3, 2, 1));
    }

    private static void howMany() {
        Check.says("Promise 6", "How many turns there are.");
        Counted x = Counted.of(3);
        for (int t = 0; t < FIVE.length; t++) {
            Check.due("turns()", x.turns(), t);
            x.text(FIVE[t]);
            x.turn();
        }
        Check.due("turns()", x.turns(), 5);
        Check.due("the sixth", Check.answer(x, y -> y.turn()), "UnsupportedOperationException");
        Check.due("turns()", x.turns(), 5);
        x.moveAll(0, 9);
        x.reset();
        x.cut(0);
        Check.due("turns() after moves", x.turns(), 5);
        x.stickers(3);
        Check.due("turns() of a new puzzle", x.turns(), 0);
        Check.onlyAnswers(States::allOfTwelve, "turns()", 5, y -> y.turns());
    }

    private static void images() {
        Check.says("Promise 7", "Where a turn takes what is at a place.");
        Counted x = Counted.of(12, "(0 1 2)", "(11 0)", "", "(5)", "(10 9 8 7 6 5 4 3 2 1)");
        x.move(0);
        x.swap(0, 7);
        Check.due("turn 4", x.readTurn(4), List.of(0, 10, 1, 2, 3, 4, 5, 6, 7, 8, 9, 11));
        Check.due("image(0, 0)", x.image(0, 0), 1);
        Check.due("image(0, 2)", x.image(0, 2), 0);
        Check.due("image(0, 11)", x.image(0, 11), 11);
        Check.due("image(1, 0)", x.image(1, 0), 11);
        Check.due("image(1, 11)", x.image(1, 11), 0);
        Check.due("image(2, 11)", x.image(2, 11), 11);
        Check.due("image(3, 5)", x.image(3, 5), 5);
    }

    private static void noSuchTurnOrPlace() {
        Check.says("Promise 7", "Where a turn takes what is at a place.");
        for (int turns = 0; turns <= 5; turns++) {
            String[] some = Arrays.copyOf(FIVE, turns);
            for (int t = 0; t < turns; t++) {
                Check.due("image(" + t + ", 0)", Counted.of(3, some).image(t, 0), t < 2 ? 1 : 0);
            }
            for (int t : new int[] {turns, -1, turns + 1, 5, 6, Integer.MAX_VALUE, Integer.MIN_VALUE, 1 << 30, 1 << 31}) {
                Check.refused(x -> x.puzzle(3, some), "image(" + t + ", 0) of " + turns,
                    IndexOutOfBoundsException.class, x -> x.image(t, 0));
            }
        }
        for (int p : new int[] {3, -1, 4, 12, 16, Integer.MAX_VALUE, Integer.MIN_VALUE}) {
            Check.refused(x -> x.puzzle(3, FIVE), "image(4, " + p + ")", IndexOutOfBoundsException.class,
                x -> x.image(4, p));
        }
    }
}
