import java.util.ArrayList;
import java.util.List;

/** Counts answers that are not due, and has short ways to use a StickerFoundry in tests. */
final class Check {
    /** A call that may throw. */
    interface Call {
        void make();
    }

    private static int wrong = 0;
    private static int checked = 0;

    private Check() {
    }

    static void due(String what, Object got, Object want) {
        checked++;
        if (!got.equals(want)) {
            wrong++;
            System.out.println(what + ": answered " + got + ", due is " + want);
        }
    }

    static void yes(String what, boolean got) {
        due(what, got, true);
    }

    static void no(String what, boolean got) {
        due(what, got, false);
    }

    /** The call throws just this exception, and nothing that can be asked of the object changes. */
    static void refused(StickerFoundry x, String what, Class<? extends RuntimeException> why, Call call) {
        String before = stateOf(x);
        String thrown = "nothing";
        try {
            call.make();
        } catch (RuntimeException e) {
            thrown = e.getClass().getSimpleName();
        }
        due(what + " throws", thrown, why.getSimpleName());
        due(what + " keeps the state", stateOf(x), before);
    }

    /** The answer is false, and nothing that can be asked of the object changes. */
    static void unchanged(StickerFoundry x, String what, Call call) {
        String before = stateOf(x);
        call.make();
        due(what + " keeps the state", stateOf(x), before);
    }

    static void finish() {
        if (checked == 0 || wrong > 0) {
            System.out.println(wrong + " of " + checked + " answers are wrong");
            System.exit(1);
        }
    }

    static StickerFoundry puzzle(int stickers, String... turns) {
        StickerFoundry x = new StickerFoundry();
        yes("stickers(" + stickers + ")", x.stickers(stickers));
        for (String turn : turns) {
            text(x, turn);
            x.turn();
        }
        return x;
    }

    static void text(StickerFoundry x, String text) {
        x.cut(0);
        for (int i = 0; i < text.length(); i += 8) {
            String part = text.substring(i, Math.min(i + 8, text.length()));
            yes("type " + part, x.type(bytes(part), part.length()));
        }
    }

    static long bytes(String part) {
        long w = 0;
        for (int i = 0; i < part.length(); i++) {
            w |= (long) part.charAt(i) << (8 * i);
        }
        return w;
    }

    static String textOf(StickerFoundry x) {
        StringBuilder text = new StringBuilder();
        for (int i = 0; x.character(i) != 0; i++) {
            text.append((char) x.character(i));
        }
        return text.toString();
    }

    static int stickersOf(StickerFoundry x) {
        int n = 0;
        try {
            for (; n < 1000; n++) {
                x.place(n);
            }
        } catch (IndexOutOfBoundsException e) {
            return n;
        }
        return n;
    }

    static List<Integer> rowOf(StickerFoundry x) {
        List<Integer> row = new ArrayList<>();
        for (int s = 0; s < stickersOf(x); s++) {
            row.add(x.place(s));
        }
        return row;
    }

    static List<Integer> turnOf(StickerFoundry x, int turn) {
        List<Integer> row = new ArrayList<>();
        for (int p = 0; p < stickersOf(x); p++) {
            row.add(x.image(turn, p));
        }
        return row;
    }

    static List<Integer> solutionOf(StickerFoundry x) {
        List<Integer> moves = new ArrayList<>();
        for (int i = 0; x.solution(i) != StickerFoundry.NONE; i++) {
            moves.add(x.solution(i));
        }
        return moves;
    }

    /** All that can be asked without changing anything. */
    static String stateOf(StickerFoundry x) {
        StringBuilder state = new StringBuilder();
        state.append(rowOf(x)).append(textOf(x)).append(solutionOf(x)).append(x.order()).append(x.reachable());
        for (int t = 0; t < x.turns(); t++) {
            state.append(turnOf(x, t));
        }
        for (int k = 0; k < stickersOf(x); k++) {
            state.append(' ').append(x.orbit(k)).append(x.block(k, 0));
        }
        return state.toString();
    }
}
