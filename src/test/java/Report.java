import java.util.ArrayList;
import java.util.List;

/** All that an object can be asked, in parts: 512 calls are enough to ask one of them twice. */
final class Report {
    /** The first four parts change nothing; each other one begins with a call that does. */
    enum Part {
        STATE, GROUP, CLASSES, DISTANCES,
        SOLVE, TURN, MOVE, SWAP, RESET, UNRANK, WRITE, TYPE, CUT, STICKERS;

        boolean changes() {
            return ordinal() > DISTANCES.ordinal();
        }
    }

    private static final int FROM = -1;
    private static final int LAST_PLACE = 12;
    private static final int LAST_TURN = 5;
    private static final int LAST_CHARACTER = 48;
    private static final int LONGEST_WRITTEN = 32;
    private static final int LAST_MOVE_OF_SOLUTION = 18;

    private final Foundry x;
    private final List<String> answers = new ArrayList<>();

    private Report(Foundry x) {
        this.x = x;
    }

    static List<String> of(Foundry x, Part part) {
        Report report = new Report(x);
        report.fill(part);
        return report.answers;
    }

    private void fill(Part part) {
        switch (part) {
            case STATE -> state();
            case GROUP -> group();
            case CLASSES -> pairs("block", (k, p) -> x.block(k, p));
            case DISTANCES -> distances();
            case SOLVE -> solve();
            case TURN -> turn();
            case MOVE -> moves();
            case SWAP -> swaps();
            case RESET -> done("reset", y -> y.reset());
            case UNRANK -> unrank();
            case WRITE -> writes();
            case TYPE -> typed();
            case CUT -> cut();
            default -> stickers();
        }
        if (part.changes()) {
            row();
            told("turns", y -> y.turns());
            told("order", y -> y.order());
            told("reachable", y -> y.reachable());
        }
    }

    private interface Pair {
        Object of(int a, int b);
    }

    private void told(String what, Check.Ask call) {
        answers.add(what + " = " + Check.answer(x, call));
    }

    private void done(String what, Check.Do call) {
        answers.add(what + " = " + Check.outcome(x, call));
    }

    private void pairs(String name, Pair call) {
        for (int a = FROM; a <= LAST_PLACE; a++) {
            for (int b = FROM; b <= LAST_PLACE; b++) {
                int first = a;
                int second = b;
                told(name + "(" + a + ", " + b + ")", y -> call.of(first, second));
            }
        }
    }

    private void row() {
        for (int s = FROM; s <= LAST_PLACE; s++) {
            int sticker = s;
            told("place(" + s + ")", y -> y.place(sticker));
        }
    }

    private void text(int last) {
        for (int i = FROM; i <= last; i++) {
            int at = i;
            told("character(" + i + ")", y -> y.character(at));
        }
    }

    private void solution() {
        for (int i = FROM; i <= LAST_MOVE_OF_SOLUTION; i++) {
            int at = i;
            told("solution(" + i + ")", y -> y.solution(at));
        }
    }

    private void turnRows() {
        told("turns", y -> y.turns());
        for (int t = FROM; t <= LAST_TURN; t++) {
            for (int p = FROM; p <= LAST_PLACE; p++) {
                int turn = t;
                int place = p;
                told("image(" + t + ", " + p + ")", y -> y.image(turn, place));
            }
        }
    }

    private void state() {
        row();
        text(LAST_CHARACTER);
        solution();
        turnRows();
    }

    private void group() {
        told("order", y -> y.order());
        told("reachable", y -> y.reachable());
        told("rank", y -> y.rank());
        for (int k = FROM; k <= LAST_PLACE; k++) {
            int sticker = k;
            told("orbit(" + k + ")", y -> y.orbit(sticker));
        }
        pairs("inOrbit", (k, p) -> x.inOrbit(k, p));
    }

    private void distances() {
        told("diameter", y -> y.diameter());
        for (int d = -1; d <= 20; d++) {
            int distance = d;
            told("atDistance(" + d + ")", y -> y.atDistance(distance));
        }
        for (int l = -1; l <= 5; l++) {
            int limit = l;
            told("within(" + l + ")", y -> y.within(limit));
        }
    }

    private void solve() {
        told("solve", y -> y.solve());
        solution();
    }

    private void turn() {
        told("turn", y -> y.turn());
        text(LAST_CHARACTER);
        turnRows();
        told("diameter", y -> y.diameter());
    }

    private void moves() {
        for (int m = -1; m <= 10; m++) {
            int move = m;
            done("move(" + m + ")", y -> y.move(move));
            told("place(0)", y -> y.place(0));
        }
    }

    private void swaps() {
        for (int p = FROM; p <= LAST_PLACE; p++) {
            int place = p;
            done("swap(0, " + p + ")", y -> y.swap(0, place));
            told("place(0)", y -> y.place(0));
        }
    }

    private void unrank() {
        for (long r : new long[] {-1, 0, 1, 2, 7, 23, 659, 1439, 1440, 479001599L, 479001600L}) {
            done("unrank(" + r + ")", y -> y.unrank(r));
            told("rank", y -> y.rank());
        }
    }

    private void writes() {
        for (int t = -2; t <= LAST_TURN; t++) {
            int turn = t;
            told("write(" + t + ")", y -> y.write(turn));
            text(LONGEST_WRITTEN);
        }
    }

    private void typed() {
        told("type", y -> y.type(Foundry.bytes("(0)"), 3));
        text(LAST_CHARACTER);
        told("cut(0)", y -> y.cut(0));
        told("type", y -> y.type(Foundry.bytes("(0)"), 3));
        told("turn", y -> y.turn());
    }

    private void cut() {
        for (int n = 49; n >= -1; n--) {
            int length = n;
            told("cut(" + n + ")", y -> y.cut(length));
        }
        told("character(0)", y -> y.character(0));
    }

    private void stickers() {
        told("stickers(7)", y -> y.stickers(7));
        text(LAST_CHARACTER);
        solution();
    }
}
