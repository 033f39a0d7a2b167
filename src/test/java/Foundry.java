import java.util.ArrayList;
import java.util.List;

/** The face of the document, so that a test can ask StickerFoundry and PlainFoundry alike. */
interface Foundry {
    int NONE = -1;

    boolean stickers(int n);

    boolean type(long w, int n);

    boolean cut(int n);

    int turn();

    int turns();

    int image(int turn, int place);

    void move(int move);

    void swap(int a, int b);

    void reset();

    int place(int sticker);

    long order();

    int orbit(int k);

    boolean inOrbit(int k, int p);

    boolean reachable();

    long rank();

    void unrank(long rank);

    int block(int j, int s);

    int diameter();

    int atDistance(int d);

    int solve();

    int solution(int i);

    int within(int limit);

    int write(int t);

    int character(int i);

    /** The characters of a part of at most eight, the first one in the lowest byte. */
    static long bytes(String part) {
        long w = 0;
        for (int i = 0; i < part.length(); i++) {
            w |= (long) part.charAt(i) << (8 * i);
        }
        return w;
    }

    default void puzzle(int stickers, String... turns) {
        Check.yes("stickers(" + stickers + ")", stickers(stickers));
        for (String turn : turns) {
            text(turn);
            turn();
        }
    }

    default void text(String text) {
        Check.yes("cut(0)", cut(0));
        for (int i = 0; i < text.length(); i += 8) {
            String part = text.substring(i, Math.min(i + 8, text.length()));
            Check.yes("type " + part, type(bytes(part), part.length()));
        }
    }

    default void moveAll(int... moves) {
        for (int move : moves) {
            move(move);
        }
    }

    default String readText() {
        StringBuilder text = new StringBuilder();
        for (int i = 0; i < 1000 && character(i) != 0; i++) {
            text.append((char) character(i));
        }
        return text.toString();
    }

    /** The places of sticker 0, 1, .. till one is refused: so it also tells how many there are. */
    default List<Integer> readRow() {
        List<Integer> row = new ArrayList<>();
        try {
            for (int s = 0; s < 100; s++) {
                row.add(place(s));
            }
        } catch (IndexOutOfBoundsException e) {
            return row;
        }
        return row;
    }

    default List<Integer> readTurn(int turn) {
        List<Integer> row = new ArrayList<>();
        try {
            for (int p = 0; p < 100; p++) {
                row.add(image(turn, p));
            }
        } catch (IndexOutOfBoundsException e) {
            return row;
        }
        return row;
    }

    default List<Integer> readSolution() {
        List<Integer> moves = new ArrayList<>();
        for (int move = solution(0); move != NONE && moves.size() < 100; move = solution(moves.size())) {
            moves.add(move);
        }
        return moves;
    }
}
