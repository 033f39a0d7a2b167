import java.util.ArrayList;
import java.util.List;
import java.util.NoSuchElementException;
import java.util.Random;

/** Promises 12 (order), 13 (orbit), 14 (inOrbit), 15 (reachable), 16 (rank) and 17 (unrank). */
public final class ReachableTest {
    private static final String[] MATHIEU = {"(0 1 2 3 4 5 6 7 8 9 10)", "(2 6 10 7)(3 9 4 5)",
        "(0 11)(1 10)(2 5)(3 7)(4 8)(6 9)"};
    private static final String[] ALL = {"(0 1)", "(0 1 2 3 4 5 6 7 8 9 10 11)"};
    private static final long MOST = 479001600L;

    public static void main(String[] args) {
        leastOrder();
        orders();
        greatestOrder();
        orderGrowsTurnByTurn();
        orderOnlyAnswers();
        orbits();
        orbitsFixing();
        orbitsAtTheEnds();
        noSuchStickerOfOrbit();
        anyNumberOfMoves();
        reachable();
        reachableOnlyAnswers();
        ranksInOrder();
        ranksOfAll();
        greatRanks();
        rankOfTheSolved();
        rankNotReachable();
        unrankAtTheEnds();
        unrankFromAnyArrangement();
        unrankKeepsTheRest();
        noSuchRank();
        Check.finish();
    }

    private static void orderIs(long order, int stickers, String... turns) {
        Check.due("order with " + String.join(", ", turns), Counted.of(stickers, turns).order(), order);
    }

    private static void leastOrder() {
        Check.says("Promise 12", "How many arrangements are reachable.");
        for (int n = 1; n <= 12; n++) {
            orderIs(1, n);
            orderIs(1, n, "", "(0)", " ", "(" + (n - 1) + ")", "");
        }
    }

    private static void orders() {
        Check.says("Promise 12", "How many arrangements are reachable.");
        orderIs(2, 12, "(0 11)");
        orderIs(2, 12, "(0 11)", "(0 11)", "(11 0)", "(0 11)", "(0 11)");
        orderIs(60, 12, "(0 1 2)(3 4 5 6)(7 8 9 10 11)");
        orderIs(96, 10, "(0 1)(2 3)", "(2 3)(4 5)(0 1 8 9)", "(6 7)", "(4 5)", "(8 9)(0 1)");
        orderIs(32, 8, "(0 1)", "(2 3)", "(4 5)", "(6 7)", "(0 2)(1 3)(4 6 5 7)");
        orderIs(660, 12, States.SIX_HUNDRED_SIXTY);
        orderIs(1440, 8, States.ALL_OF_SIX_AND_TWO);
        orderIs(1512, 9, States.JUST_TOO_MANY);
        orderIs(7920, 12, MATHIEU[0], MATHIEU[1]);
        orderIs(95040, 12, MATHIEU);
        orderIs(518400, 12, "(0 1)", "(0 1 2 3 4 5)", "(6 7)", "(6 7 8 9 10 11)");
    }

    private static void orderOnlyAnswers() {
        Check.says("Promise 12", "How many arrangements are reachable.");
        Check.onlyAnswers(States::square, "order()", 8, x -> x.order());
        Check.onlyAnswers(States::notReachable, "order(), not reachable", 6, x -> x.order());
        Check.onlyAnswers(States::allOfTwelve, "order() of all", MOST, x -> x.order());
    }

    private static void reachableOnlyAnswers() {
        Check.says("Promise 15", "Whether the arrangement is reachable.");
        Check.onlyAnswers(States::square, "reachable()", true, x -> x.reachable());
        Check.onlyAnswers(States::notReachable, "reachable(), not reachable", false, x -> x.reachable());
        Check.onlyAnswers(States::allOfTwelve, "reachable() of all", true, x -> x.reachable());
    }

    private static void greatestOrder() {
        Check.says("Promise 12", "How many arrangements are reachable.");
        orderIs(MOST / 2, 12, "(0 1 2)", "(1 2 3 4 5 6 7 8 9 10 11)");
        orderIs(MOST, 12, ALL);
        orderIs(MOST, 12, States.ALL_OF_TWELVE);
        orderIs(MOST, 12, "(11 10)", "(10 9 8 7 6 5 4 3 2 1 0)", "(0 11)", "", "(5)");
        long factorial = 1;
        for (int n = 2; n <= 12; n++) {
            factorial *= n;
            String all = "0 1 2 3 4 5 6 7 8 9 10 11".substring(0, n < 11 ? 2 * n - 1 : 3 * n - 11);
            orderIs(factorial, n, "(" + all + ")", "(0 1)");
        }
    }

    private static void orderGrowsTurnByTurn() {
        Check.says("Promise 12", "How many arrangements are reachable.");
        Counted x = Counted.of(12);
        String[] turns = {"(10 11)", "(9 10)", "(0 1 2 3 4 5 6 7 8)", "(0 2)(3 5)", "(8 9)"};
        long[] orders = {2, 6, 54, 1088640, MOST};
        for (int t = 0; t < turns.length; t++) {
            x.text(turns[t]);
            x.turn();
            Check.due("order with turn " + t, x.order(), orders[t]);
        }
        x.stickers(11);
        Check.due("order of a new puzzle", x.order(), 1L);
    }

    private static void orbits() {
        Check.says("Terms", "THE ORBIT of a sticker p, FIXING k: all places where p can be");
        Counted x = Counted.of(6, "(0 1 2)", "(3 4)");
        String[] members = {"012", "1", "2", "34", "4", "5"};
        for (int k = 0; k < 6; k++) {
            Check.due("orbit(" + k + ")", x.orbit(k), members[k].length());
            for (int p = 0; p < 6; p++) {
                Check.due("inOrbit(" + k + ", " + p + ")", x.inOrbit(k, p), members[k].indexOf('0' + p) >= 0);
            }
        }
    }

    private static void orbitsFixing() {
        Check.says("Terms", "in reachable arrangements in which the stickers 0 .. k - 1 are at their places.");
        Counted x = Counted.of(4, "(0 1)(2 3)");
        Check.due("sticker 2 is fixed when 0 is", x.orbit(2), 1);
        Check.no("so it is not at 3", x.inOrbit(2, 3));
        Check.yes("it is at 2", x.inOrbit(2, 2));
        Check.yes("0 is at 1", x.inOrbit(0, 1));
        x.swap(0, 2);
        Check.due("the arrangement does not matter", x.orbit(0), 2);
        Counted m = Counted.of(12, MATHIEU);
        for (int k = 0; k < 12; k++) {
            Check.due("orbit(" + k + ") of twelve", m.orbit(k), k < 5 ? 12 - k : 1);
        }
    }

    private static void orbitsAtTheEnds() {
        Check.says("Promise 13", "How many places the ORBIT of sticker k has, FIXING k.");
        Counted all = Counted.of(12, ALL);
        for (int k = 0; k < 12; k++) {
            Check.due("orbit(" + k + ") of all", all.orbit(k), 12 - k);
            for (int p = 0; p < 12; p++) {
                Check.due("inOrbit(" + k + ", " + p + ") of all", all.inOrbit(k, p), p >= k);
            }
        }
        Check.says("Promise 14", "Whether place p is in the ORBIT of sticker k, FIXING k.");
        Counted none = Counted.of(12);
        none.swap(0, 11);
        for (int k = 0; k < 12; k++) {
            Check.due("orbit(" + k + ") without turns", none.orbit(k), 1);
            for (int p = 0; p < 12; p++) {
                Check.due("inOrbit(" + k + ", " + p + ") without turns", none.inOrbit(k, p), p == k);
            }
        }
        Check.due("orbit(0) of one sticker", Counted.in(States::oneSticker).orbit(0), 1);
    }

    private static void noSuchStickerOfOrbit() {
        Check.says("Terms", "Numbers of stickers, places, turns and moves that there are not are refused");
        for (int n : new int[] {1, 6, 12}) {
            State state = x -> x.puzzle(n, "(0)", "");
            for (int k : new int[] {n, -1, n + 1, 11, 12, 16, Integer.MAX_VALUE, Integer.MIN_VALUE}) {
                if (k < n && k >= 0) {
                    continue;
                }
                Class<IndexOutOfBoundsException> why = IndexOutOfBoundsException.class;
                Check.refused(state, "orbit(" + k + ") of " + n, why, x -> x.orbit(k));
                Check.refused(state, "inOrbit(" + k + ", 0) of " + n, why, x -> x.inOrbit(k, 0));
                Check.refused(state, "inOrbit(0, " + k + ") of " + n, why, x -> x.inOrbit(0, k));
                Check.refused(state, "inOrbit(" + k + ", " + k + ") of " + n, why, x -> x.inOrbit(k, k));
            }
        }
    }

    private static void anyNumberOfMoves() {
        Check.says("Terms", "An arrangement is REACHABLE, if moves (any number) lead from the solved one to it.");
        Counted x = Counted.of(12);
        Check.yes("the solved one without turns, by no moves", x.reachable());
        Counted y = Counted.of(12, ALL);
        for (int i = 0; i < 200; i++) {
            y.moveAll(2, 0);
        }
        Check.yes("by four hundred", y.reachable());
    }

    private static void reachable() {
        Check.says("Promise 15", "Whether the arrangement is reachable.");
        Counted x = Counted.of(5, "(0 1 2)", "(2 3 4)");
        Check.yes("the solved one", x.reachable());
        x.swap(0, 1);
        Check.no("one swap", x.reachable());
        x.swap(3, 4);
        Check.yes("two swaps", x.reachable());
        x.swap(3, 4);
        x.text("(3 4)");
        x.turn();
        Check.yes("one swap, with a turn more", x.reachable());
        x.stickers(5);
        x.swap(3, 4);
        Check.no("one swap without turns", x.reachable());
        x.swap(4, 3);
        Check.yes("and back", x.reachable());
        Counted y = Counted.of(12, "(0 1 2)", "(1 2 3 4 5 6 7 8 9 10 11)");
        y.swap(0, 11);
        Check.no("one swap of twelve", y.reachable());
        y.swap(3, 10);
        Check.yes("two swaps of twelve", y.reachable());
    }

    private static void ranksInOrder() {
        Check.says("Terms", "of two, the one that is first which has the lesser place where they differ first.");
        Counted x = Counted.of(4, "(0 1 2 3)", "(0 2)");
        List<List<Integer>> rows = List.of(List.of(0, 1, 2, 3), List.of(0, 3, 2, 1), List.of(1, 0, 3, 2),
            List.of(1, 2, 3, 0), List.of(2, 1, 0, 3), List.of(2, 3, 0, 1), List.of(3, 0, 1, 2), List.of(3, 2, 1, 0));
        for (int r = 0; r < 8; r++) {
            x.unrank(r);
            Check.due("unrank(" + r + ")", x.readRow(), rows.get(r));
            Check.due("its rank", x.rank(), (long) r);
            Check.yes("it is reachable", x.reachable());
        }
    }

    private static void ranksOfAll() {
        Check.says("Promise 17", "The arrangement becomes the one with a rank.");
        List<Integer> last = List.of(11, 10, 9, 8, 7, 6, 5, 4, 3, 2, 1, 0);
        Counted all = Counted.of(12, ALL);
        all.unrank(MOST - 1);
        Check.due("the last", all.readRow(), last);
        Check.due("its rank", all.rank(), MOST - 1);
        all.unrank(1);
        Check.due("the second", all.readRow(), List.of(0, 1, 2, 3, 4, 5, 6, 7, 8, 9, 11, 10));
        all.unrank(MOST - 2);
        Check.due("the last but one", all.readRow(), List.of(11, 10, 9, 8, 7, 6, 5, 4, 3, 2, 0, 1));
        all.unrank(0);
        Check.due("the first", all.readRow(), List.of(0, 1, 2, 3, 4, 5, 6, 7, 8, 9, 10, 11));
    }

    private static void greatRanks() {
        Check.says("Terms", "Their RANKS are 0, 1, .. in this order.");
        ranksAreInOrder(12, MATHIEU);
        ranksAreInOrder(12, MATHIEU[0], MATHIEU[2]);
        ranksAreInOrder(12, "(0 1 2)", "(1 2 3 4 5 6 7 8 9 10 11)");
        ranksAreInOrder(11, "(0 5 10)(1 2)", "(3 5)(4 10)", "(6 7 8 9)");
        ranksAreInOrder(12, ALL);
    }

    /** Of all pairs of many ranks the lesser has the lesser row: this, and that each comes back, tells the order. */
    private static void ranksAreInOrder(int stickers, String... turns) {
        Random random = new Random(5);
        long order = Counted.of(stickers, turns).order();
        List<Long> ranks = new ArrayList<>(List.of(0L, 1L, order - 2, order - 1));
        for (int i = 0; i < 100; i++) {
            long rank = (random.nextLong() >>> 1) % (order - 1);
            ranks.add(rank);
            ranks.add(rank + 1);
        }
        ranks.sort(null);
        String before = "";
        long rankBefore = -1;
        for (long rank : ranks) {
            Counted x = Counted.of(stickers, turns);
            x.unrank(rank);
            Check.due("rank after unrank(" + rank + ")", x.rank(), rank);
            Check.yes("it is reachable", x.reachable());
            StringBuilder row = new StringBuilder();
            for (int place : x.readRow()) {
                row.append((char) ('a' + place));
            }
            Check.yes("rows are in order at " + rank,
                rank == rankBefore ? before.equals(row.toString()) : before.compareTo(row.toString()) < 0);
            before = row.toString();
            rankBefore = rank;
        }
    }

    private static void rankOfTheSolved() {
        Check.says("Promise 16", "The rank of the arrangement.");
        for (States.Named named : States.small()) {
            Counted x = Counted.in(named.state());
            x.reset();
            Check.due("rank of the solved one: " + named.name(), x.rank(), 0L);
        }
        Check.due("rank of a new object's", new Counted().rank(), 0L);
        Counted x = Counted.of(12, ALL);
        Check.due("rank of the solved one of all", x.rank(), 0L);
    }

    private static void rankNotReachable() {
        Check.says("Promise 16", "IllegalStateException when it is not reachable.");
        Class<IllegalStateException> why = IllegalStateException.class;
        Check.refused(States::notReachable, "rank()", why, x -> x.rank());
        Check.refused(States::withoutTurns, "rank() without turns", why, x -> x.rank());
        Check.refused(States::justTooMany, "rank() of nine", why, x -> x.rank());
        Check.refused(x -> {
            States.solutionOfAnother(x);
            x.puzzle(12, "(0 1 2)", "(1 2 3 4 5 6 7 8 9 10 11)");
            x.swap(10, 11);
        }, "rank() after one swap of twelve", why, x -> x.rank());
        Check.refused(x -> {
            x.puzzle(2);
            x.swap(0, 1);
        }, "rank() of two", why, x -> x.rank());
        Counted x = Counted.in(States::notReachable);
        x.swap(0, 5);
        Check.due("rank() when it is reachable again", x.rank(), 0L);
    }

    private static void unrankAtTheEnds() {
        Check.says("Promise 17", "NoSuchElementException when there is none (also below 0).");
        unrankEnds(new States.Named("a new object", 1, 0, x -> { }), 1);
        unrankEnds(new States.Named("no turns", 12, 0, x -> x.puzzle(12)), 1);
        unrankEnds(new States.Named("two", 2, 1, x -> x.puzzle(2, "(0 1)")), 2);
        unrankEnds(new States.Named("square", 4, 2, States::square), 8);
        unrankEnds(new States.Named("1440", 8, 3, States::justFewEnough), 1440);
        unrankEnds(new States.Named("1512", 9, 4, States::justTooMany), 1512);
        unrankEnds(new States.Named("all", 12, 5, States::allOfTwelve), MOST);
    }

    private static void unrankEnds(States.Named named, long order) {
        for (long rank : new long[] {0, order - 1}) {
            Counted x = Counted.in(named.state());
            x.unrank(rank);
            Check.due("rank after unrank(" + rank + "): " + named.name(), x.rank(), rank);
        }
        for (long rank : new long[] {order, -1, order + 1, -order, 1L << 32, -(1L << 32), 1L << 31, MOST,
            Integer.MIN_VALUE, Long.MAX_VALUE, Long.MIN_VALUE, Long.MIN_VALUE + 1}) {
            Check.refused(named.state(), "unrank(" + rank + "): " + named.name(), NoSuchElementException.class,
                x -> x.unrank(rank));
        }
    }

    private static void unrankFromAnyArrangement() {
        Check.says("Promise 17", "The arrangement becomes the one with a rank.");
        Counted x = Counted.in(States::notReachable);
        x.unrank(5);
        Check.yes("reachable", x.reachable());
        Check.due("the row", x.readRow(), List.of(2, 0, 1, 4, 3, 5));
        x.unrank(0);
        Check.due("the solved one", x.readRow(), List.of(0, 1, 2, 3, 4, 5));
    }

    private static void unrankKeepsTheRest() {
        Check.says("Promise 17", "The arrangement becomes the one with a rank.");
        Counted x = Counted.in(States::square);
        x.unrank(3);
        Check.due("text", x.readText(), "(0 2)");
        Check.due("turns", x.turns(), 2);
        Check.due("solution", x.readSolution(), Counted.in(States::square).readSolution());
        Check.nothingChanges(y -> y.puzzle(4, "(0 1)"), "unrank(0) of the solved one", y -> y.unrank(0));
    }

    private static void noSuchRank() {
        Check.says("Promise 17", "NoSuchElementException when there is none (also below 0).");
        for (int n = 1; n <= 12; n++) {
            int stickers = n;
            Check.refused(x -> x.puzzle(stickers), "unrank(1) without turns of " + n, NoSuchElementException.class,
                x -> x.unrank(1));
        }
        Check.refused(States::notReachable, "unrank(6), not reachable", NoSuchElementException.class, x -> x.unrank(6));
        Check.refused(States::notReachable, "unrank(-1), not reachable", NoSuchElementException.class,
            x -> x.unrank(-1));
    }
}
