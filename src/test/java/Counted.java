/** A StickerFoundry that counts its calls: what one answers after the 512th is free, so no test may look at that. */
final class Counted implements Foundry {
    private static final int MOST_CALLS = 512;

    private final StickerFoundry x = new StickerFoundry();
    private int calls = 0;

    /** A new object that has come to a state. */
    static Counted in(State state) {
        Counted x = new Counted();
        state.build(x);
        return x;
    }

    static Counted of(int stickers, String... turns) {
        return in(x -> x.puzzle(stickers, turns));
    }

    private StickerFoundry next() {
        calls++;
        if (calls > MOST_CALLS) {
            throw new AssertionError("a test makes more than 512 calls of one object");
        }
        return x;
    }

    @Override
    public boolean stickers(int n) {
        return next().stickers(n);
    }

    @Override
    public boolean type(long w, int n) {
        return next().type(w, n);
    }

    @Override
    public boolean cut(int n) {
        return next().cut(n);
    }

    @Override
    public int turn() {
        return next().turn();
    }

    @Override
    public int turns() {
        return next().turns();
    }

    @Override
    public int image(int turn, int place) {
        return next().image(turn, place);
    }

    @Override
    public void move(int move) {
        next().move(move);
    }

    @Override
    public void swap(int a, int b) {
        next().swap(a, b);
    }

    @Override
    public void reset() {
        next().reset();
    }

    @Override
    public int place(int sticker) {
        return next().place(sticker);
    }

    @Override
    public long order() {
        return next().order();
    }

    @Override
    public int orbit(int k) {
        return next().orbit(k);
    }

    @Override
    public boolean inOrbit(int k, int p) {
        return next().inOrbit(k, p);
    }

    @Override
    public boolean reachable() {
        return next().reachable();
    }

    @Override
    public long rank() {
        return next().rank();
    }

    @Override
    public void unrank(long rank) {
        next().unrank(rank);
    }

    @Override
    public int block(int j, int s) {
        return next().block(j, s);
    }

    @Override
    public int diameter() {
        return next().diameter();
    }

    @Override
    public int atDistance(int d) {
        return next().atDistance(d);
    }

    @Override
    public int solve() {
        return next().solve();
    }

    @Override
    public int solution(int i) {
        return next().solution(i);
    }

    @Override
    public int within(int limit) {
        return next().within(limit);
    }

    @Override
    public int write(int t) {
        return next().write(t);
    }

    @Override
    public int character(int i) {
        return next().character(i);
    }
}
