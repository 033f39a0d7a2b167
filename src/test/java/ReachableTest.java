import java.util.ArrayList;
import java.util.List;
import java.util.NoSuchElementException;
import java.util.Random;

/** Promises 12 (order), 13 (orbit), 14 (inOrbit), 15 (reachable), 16 (rank) and 17 (unrank). */
public final class ReachableTest {
    private static final String[] MATHIEU = {"(0 1 2 3 4 5 6 7 8 9 10)", "(2 6 10 7)(3 9 4 5)",
        "(0 11)(1 10)(2 5)(3 7)(4 8)(6 9)"};

    public static void main(String[] args) {
        orders();
        orderGrowsTurnByTurn();
        orbits();
        refusedOrbits();
        reached();
        ranksInOrder();
        greatRanks();
        refusedRanks();
        Check.finish();
    }

    private static void orders() {
        orderIs(1, 1);
        orderIs(1, 12, "", "(3)");
        orderIs(2, 12, "(0 11)");
        orderIs(60, 12, "(0 1 2)(3 4 5 6)(7 8 9 10 11)");
        orderIs(96, 10, "(0 1)(2 3)", "(2 3)(4 5)(0 1 8 9)", "(6 7)", "(4 5)", "(8 9)(0 1)");
        orderIs(32, 8, "(0 1)", "(2 3)", "(4 5)", "(6 7)", "(0 2)(1 3)(4 6 5 7)");
        orderIs(660, 12, "(0 1 2 3 4 5 6 7 8 9 10)", "(1 3 9 5 4)(2 6 7 10 8)",
            "(11 0)(1 10)(2 5)(3 7)(4 8)(6 9)");
        orderIs(1512, 9, "(1 2 4 3 6 7 5)", "(0 1)(2 3)(4 5)(6 7)", "(0 8)(2 5)(3 6)(4 7)", "(2 4 6)(3 5 7)");
        orderIs(7920, 12, MATHIEU[0], MATHIEU[1]);
        orderIs(95040, 12, MATHIEU);
        orderIs(239500800L, 12, "(0 1 2)", "(1 2 3 4 5 6 7 8 9 10 11)");
        orderIs(479001600L, 12, "(0 1)", "(0 1 2 3 4 5 6 7 8 9 10 11)");
        orderIs(518400, 12, "(0 1)", "(0 1 2 3 4 5)", "(6 7)", "(6 7 8 9 10 11)");
    }

    private static void orderIs(long order, int stickers, String... turns) {
        StickerFoundry x = Check.puzzle(stickers, turns);
        Check.due("order with " + String.join(", ", turns), x.order(), order);
    }

    private static void orderGrowsTurnByTurn() {
        StickerFoundry x = Check.puzzle(12);
        String[] turns = {"(10 11)", "(9 10)", "(0 1 2 3 4 5 6 7 8)", "(0 2)(3 5)", "(8 9)"};
        long[] orders = {2, 6, 54, 1088640, 479001600};
        for (int t = 0; t < turns.length; t++) {
            Check.text(x, turns[t]);
            x.turn();
            Check.due("order with turn " + t, x.order(), orders[t]);
        }
        x.stickers(11);
        Check.due("order of a new puzzle", x.order(), 1L);
    }

    private static void orbits() {
        StickerFoundry x = Check.puzzle(6, "(0 1 2)", "(3 4)");
        int[] sizes = {3, 1, 1, 2, 1, 1};
        String[] members = {"012", "1", "2", "34", "4", "5"};
        for (int k = 0; k < 6; k++) {
            Check.due("orbit(" + k + ")", x.orbit(k), sizes[k]);
            for (int p = 0; p < 6; p++) {
                Check.due("inOrbit(" + k + ", " + p + ")", x.inOrbit(k, p), members[k].indexOf('0' + p) >= 0);
            }
        }
        StickerFoundry y = Check.puzzle(4, "(0 1)(2 3)");
        Check.due("sticker 2 is fixed when 0 is", y.orbit(2), 1);
        Check.no("so it is not at 3", y.inOrbit(2, 3));
        Check.yes("but 0 is at 1", y.inOrbit(0, 1));
        y.swap(0, 2);
        Check.due("the arrangement does not matter", y.orbit(0), 2);
        StickerFoundry m = Check.puzzle(12, MATHIEU);
        for (int k = 0; k < 12; k++) {
            Check.due("orbit(" + k + ") of twelve", m.orbit(k), k < 5 ? 12 - k : 1);
        }
    }

    private static void refusedOrbits() {
        StickerFoundry x = Check.puzzle(6, "(0 1 2)");
        for (int k : new int[] {6, 11, 12, -1, Integer.MAX_VALUE, Integer.MIN_VALUE}) {
            Check.refused(x, "orbit(" + k + ")", IndexOutOfBoundsException.class, () -> x.orbit(k));
            Check.refused(x, "inOrbit(" + k + ", 0)", IndexOutOfBoundsException.class, () -> x.inOrbit(k, 0));
            Check.refused(x, "inOrbit(0, " + k + ")", IndexOutOfBoundsException.class, () -> x.inOrbit(0, k));
        }
    }

    private static void reached() {
        StickerFoundry x = Check.puzzle(5, "(0 1 2)", "(2 3 4)");
        Check.yes("the solved one", x.reachable());
        x.swap(0, 1);
        Check.no("one swap", x.reachable());
        Check.refused(x, "its rank", IllegalStateException.class, () -> x.rank());
        x.swap(3, 4);
        Check.yes("two swaps", x.reachable());
        x.swap(3, 4);
        Check.text(x, "(3 4)");
        x.turn();
        Check.yes("one swap, with a turn more", x.reachable());
        x.stickers(5);
        x.swap(3, 4);
        Check.no("one swap without turns", x.reachable());
    }

    private static void ranksInOrder() {
        StickerFoundry x = Check.puzzle(4, "(0 1 2 3)", "(0 2)");
        List<List<Integer>> rows = List.of(List.of(0, 1, 2, 3), List.of(0, 3, 2, 1), List.of(1, 0, 3, 2),
            List.of(1, 2, 3, 0), List.of(2, 1, 0, 3), List.of(2, 3, 0, 1), List.of(3, 0, 1, 2), List.of(3, 2, 1, 0));
        for (int r = 0; r < 8; r++) {
            x.unrank(r);
            Check.due("unrank(" + r + ")", Check.rowOf(x), rows.get(r));
            Check.due("its rank", x.rank(), (long) r);
            Check.yes("it is reachable", x.reachable());
        }
        Check.due("text stays", Check.textOf(x), "(0 2)");
    }

    private static void greatRanks() {
        Random random = new Random(5);
        ranksAreInOrder(Check.puzzle(12, MATHIEU), random);
        ranksAreInOrder(Check.puzzle(12, MATHIEU[0], MATHIEU[2]), random);
        ranksAreInOrder(Check.puzzle(12, "(0 1 2)", "(1 2 3 4 5 6 7 8 9 10 11)"), random);
        ranksAreInOrder(Check.puzzle(11, "(0 5 10)(1 2)", "(3 5)(4 10)", "(6 7 8 9)"), random);
        StickerFoundry all = Check.puzzle(12, "(0 1)", "(0 1 2 3 4 5 6 7 8 9 10 11)");
        ranksAreInOrder(all, random);
        all.unrank(479001599L);
        Check.due("the last", Check.rowOf(all), List.of(11, 10, 9, 8, 7, 6, 5, 4, 3, 2, 1, 0));
        Check.refused(all, "one more", NoSuchElementException.class, () -> all.unrank(479001600L));
        all.unrank(1);
        Check.due("the second", Check.rowOf(all), List.of(0, 1, 2, 3, 4, 5, 6, 7, 8, 9, 11, 10));
    }

    /** Of all pairs of many ranks the lesser has the lesser row: this, and that each comes back, tells the order. */
    private static void ranksAreInOrder(StickerFoundry x, Random random) {
        List<Long> ranks = new ArrayList<>(List.of(0L, 1L, x.order() - 2, x.order() - 1));
        for (int i = 0; i < 100; i++) {
            long rank = (random.nextLong() >>> 1) % (x.order() - 1);
            ranks.add(rank);
            ranks.add(rank + 1);
        }
        ranks.sort(null);
        String before = "";
        long rankBefore = -1;
        for (long rank : ranks) {
            x.unrank(rank);
            Check.due("rank after unrank(" + rank + ")", x.rank(), rank);
            Check.yes("it is reachable", x.reachable());
            StringBuilder row = new StringBuilder();
            for (int place : Check.rowOf(x)) {
                row.append((char) ('a' + place));
            }
            Check.yes("rows are in order at " + rank,
                rank == rankBefore ? before.equals(row.toString()) : before.compareTo(row.toString()) < 0);
            before = row.toString();
            rankBefore = rank;
        }
    }

    private static void refusedRanks() {
        StickerFoundry x = Check.puzzle(4, "(0 1 2 3)", "(0 2)");
        x.move(0);
        for (long r : new long[] {8, 9, 24, -1, Long.MAX_VALUE, Long.MIN_VALUE, 1L << 32, -(1L << 32)}) {
            Check.refused(x, "unrank(" + r + ")", NoSuchElementException.class, () -> x.unrank(r));
        }
        x.swap(0, 1);
        Check.refused(x, "unrank(8)", NoSuchElementException.class, () -> x.unrank(8));
        Check.refused(x, "rank()", IllegalStateException.class, () -> x.rank());
        x.unrank(0);
        Check.due("unrank(0)", Check.rowOf(x), List.of(0, 1, 2, 3));
    }
}
