/** Promise 23 (within). */
public final class WithinTest {
    private static final int[] NO_LIMITS = {5, -1, 6, -2, 60, 1500, Integer.MAX_VALUE, Integer.MIN_VALUE,
        Integer.MIN_VALUE + 1};

    public static void main(String[] args) {
        atMostLimit();
        ofAnyPuzzle();
        leastNumber();
        tenMoves();
        lastMoves();
        notReachable();
        withoutTurns();
        noSuchLimit();
        onlyAnswers();
        Check.finish();
    }

    private static void withinIs(Foundry x, int distance, String name) {
        for (int limit = 0; limit <= 4; limit++) {
            Check.due("within(" + limit + ") " + name, x.within(limit), distance <= limit ? distance : -1);
        }
    }

    private static void atMostLimit() {
        Check.says("Promise 23", "to the solved one, if that is at most limit; NONE if not.");
        Counted x = Counted.of(12, "(0 1 2 3 4 5 6 7 8 9 10 11)");
        for (int moves = 0; moves <= 12; moves++) {
            withinIs(x, Math.min(moves, 12 - moves), "after " + moves);
            x.move(0);
        }
        Counted y = Counted.of(12, "(0 1 2 3 4 5 6 7 8 9 10 11)");
        for (int moves = 0; moves <= 12; moves++) {
            withinIs(y, Math.min(moves, 12 - moves), "after " + moves + " backwards");
            y.move(1);
        }
    }

    private static void ofAnyPuzzle() {
        Check.says("Promise 23", "(Of any puzzle.)");
        Counted x = Counted.of(12, States.ALL_OF_TWELVE);
        int[] moves = {0, 3, 4, 9, 6};
        withinIs(x, 0, "of 12!, solved");
        for (int i = 0; i < moves.length; i++) {
            x.move(moves[i]);
            withinIs(x, i + 1, "of 12! after " + (i + 1));
        }
        x.unrank(479001599L);
        withinIs(x, 99, "of the last of 12!");
        Counted y = Counted.of(9, States.JUST_TOO_MANY);
        y.moveAll(0, 2);
        withinIs(y, 2, "of 1512");
        Counted z = Counted.of(8, States.ALL_OF_SIX_AND_TWO);
        z.moveAll(0, 2, 0, 4);
        withinIs(z, 4, "of 1440");
        withinIs(new Counted(), 0, "of a new object");
        withinIs(Counted.in(States::oneSticker), 0, "of one sticker and five turns");
    }

    private static void leastNumber() {
        Check.says("Promise 23", "The least number of moves that lead from the arrangement to the solved one");
        Counted x = Counted.of(8, "(0 1)", "(2 3)", "(4 5)", "(6 7)", "(0 1)(2 3)(4 5)(6 7)");
        x.moveAll(0, 2, 4, 6);
        withinIs(x, 1, "by one turn for four");
        x.move(0);
        withinIs(x, 2, "by two for three");
        x.move(2);
        withinIs(x, 2, "by two");
        x.moveAll(4, 6);
        withinIs(x, 0, "around");
        Counted y = Counted.of(6, "(0 1 2 3 4)", "(5)", "");
        y.moveAll(0, 0, 0);
        withinIs(y, 2, "backwards is nearer");
    }

    private static void tenMoves() {
        Check.says("Promise 23", "The least number of moves that lead from the arrangement to the solved one");
        for (int last = 0; last < 10; last++) {
            for (int first = 0; first < 10; first++) {
                Counted x = Counted.of(12, "(0 1 2 3)", "(3 4 5)", "(5 6 7 8)", "(8 9 10)", "(10 11 0)");
                x.moveAll(first, 4, 0, last);
                PlainFoundry plain = new PlainFoundry();
                plain.puzzle(12, "(0 1 2 3)", "(3 4 5)", "(5 6 7 8)", "(8 9 10)", "(10 11 0)");
                plain.moveAll(first, 4, 0, last);
                int want = plain.within(4);
                Check.yes("by four moves at most", want != -1);
                withinIs(x, want, "after " + first + ", 4, 0, " + last);
            }
        }
    }

    private static void lastMoves() {
        Check.says("Promise 23", "The least number of moves that lead from the arrangement to the solved one");
        for (int move = 0; move < 10; move++) {
            String[] turns = {"", "(0)", "(11)", " ", "(4)(5)"};
            turns[move / 2] = "(0 1 2 3 4 5 6 7 8 9 10 11)";
            Counted x = Counted.of(12, turns);
            for (int moves = 1; moves <= 5; moves++) {
                x.move(move);
                withinIs(x, moves, "after " + moves + " times " + move);
            }
        }
    }

    private static void notReachable() {
        Check.says("Promise 23", "NONE if not.");
        withinIs(Counted.in(States::notReachable), 99, "when it is not reachable");
        withinIs(Counted.in(States::justTooMany), 99, "when it is not reachable, of 1512");
        Counted x = Counted.of(12, "(0 1 2)", "(1 2 3 4 5 6 7 8 9 10 11)");
        x.swap(0, 1);
        withinIs(x, 99, "when it is not reachable, of 12! / 2");
    }

    private static void withoutTurns() {
        Check.says("Promise 23", "NONE if not.");
        for (int n = 2; n <= 12; n++) {
            Counted x = Counted.of(n);
            withinIs(x, 0, "without turns");
            x.swap(0, n - 1);
            withinIs(x, 99, "without turns, not solved");
        }
    }

    private static void noSuchLimit() {
        Check.says("Promise 23", "IllegalArgumentException when limit is not 0 .. 4.");
        for (int limit : NO_LIMITS) {
            for (States.Named named : States.small()) {
                Check.refused(named.state(), "within(" + limit + "): " + named.name(), IllegalArgumentException.class,
                    x -> x.within(limit));
            }
            Check.refused(States::allOfTwelve, "within(" + limit + ") of 12!", IllegalArgumentException.class,
                x -> x.within(limit));
        }
    }

    private static void onlyAnswers() {
        Check.says("Promise 23", "The least number of moves that lead from the arrangement to the solved one");
        for (int limit = 0; limit <= 4; limit++) {
            int most = limit;
            Check.onlyAnswers(States::allOfTwelve, "within(" + limit + ")", -1, x -> x.within(most));
            Check.nothingChanges(States::square, "within(" + limit + ")", x -> x.within(most));
        }
    }
}
