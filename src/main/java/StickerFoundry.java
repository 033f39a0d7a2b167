import java.util.Arrays;
import java.util.NoSuchElementException;

/** A foundry for twisty puzzles; ../shared/DOC.md says what each call answers and changes. */
public final class StickerFoundry {
    public static final int NONE = -1;

    private static final int MOST_STICKERS = 12;
    private static final int MOST_TURNS = 5;
    private static final int MOST_MOVES = 2 * MOST_TURNS;
    private static final int MOST_CHARACTERS = 48;
    private static final int MOST_SEARCHED = 1500;
    private static final int FARTHEST_LIMIT = 4;

    private final Text text = new Text();
    private final CycleReader reader = new CycleReader();
    private final Moves moves = new Moves();
    private final Chain chain = new Chain();
    private final Parting parting = new Parting();
    private final Distances distances = new Distances();
    private final Nearby nearby = new Nearby();
    private final int[] found = new int[MOST_SEARCHED];
    private int foundLength = 0;
    private int size = 1;
    private long table = Row.SOLVED;

    public StickerFoundry() {
    }

    public boolean stickers(int n) {
        if (n < 1 || n > MOST_STICKERS) {
            return false;
        }
        size = n;
        table = Row.SOLVED;
        moves.clear();
        chain.clear();
        distances.forget();
        return true;
    }

    public boolean type(long w, int n) {
        return text.append(w, n);
    }

    public boolean cut(int n) {
        return text.keep(n);
    }

    public int turn() throws IllegalArgumentException, IndexOutOfBoundsException, IllegalStateException,
            UnsupportedOperationException {
        if (!reader.read(text)) {
            throw new IllegalArgumentException("the text is not in cycles");
        }
        if (reader.greatest() >= size) {
            throw new IndexOutOfBoundsException("a number is no place");
        }
        if (reader.hasOneTwice()) {
            throw new IllegalStateException("a place is there twice");
        }
        if (moves.turnCount() >= MOST_TURNS) {
            throw new UnsupportedOperationException("there are five turns");
        }
        long row = reader.toRow();
        moves.addTurn(row);
        chain.learn(row);
        distances.forget();
        return moves.turnCount() - 1;
    }

    public int turns() {
        return moves.turnCount();
    }

    public int image(int turn, int place) throws IndexOutOfBoundsException {
        if (!isTurn(turn) || !isPlace(place)) {
            throw new IndexOutOfBoundsException("no such turn or place");
        }
        return Row.at(moves.turnRow(turn), place);
    }

    public void move(int move) throws IndexOutOfBoundsException {
        if (move < 0 || move >= moves.count()) {
            throw new IndexOutOfBoundsException("no such move");
        }
        table = Row.then(table, moves.row(move));
    }

    public void swap(int a, int b) throws IndexOutOfBoundsException {
        if (!isPlace(a) || !isPlace(b)) {
            throw new IndexOutOfBoundsException("no such place");
        }
        table = Row.then(table, Row.with(Row.with(Row.SOLVED, a, b), b, a));
    }

    public void reset() {
        table = Row.SOLVED;
    }

    public int place(int sticker) throws IndexOutOfBoundsException {
        if (!isPlace(sticker)) {
            throw new IndexOutOfBoundsException("no such sticker");
        }
        return Row.at(table, sticker);
    }

    public long order() {
        return chain.size();
    }

    public int orbit(int k) throws IndexOutOfBoundsException {
        if (!isPlace(k)) {
            throw new IndexOutOfBoundsException("no such sticker");
        }
        return chain.pointCount(k);
    }

    public boolean inOrbit(int k, int p) throws IndexOutOfBoundsException {
        if (!isPlace(k) || !isPlace(p)) {
            throw new IndexOutOfBoundsException("no such sticker or place");
        }
        return chain.hasPoint(k, p);
    }

    public boolean reachable() {
        return chain.contains(0, table);
    }

    public long rank() throws IllegalStateException {
        if (!chain.contains(0, table)) {
            throw new IllegalStateException("not reachable");
        }
        return chain.indexOf(table);
    }

    public void unrank(long rank) throws NoSuchElementException {
        if (rank < 0 || rank >= chain.size()) {
            throw new NoSuchElementException("no such rank");
        }
        table = chain.atIndex(rank);
    }

    public int block(int j, int s) throws IndexOutOfBoundsException {
        if (!isPlace(j) || !isPlace(s)) {
            throw new IndexOutOfBoundsException("no such sticker");
        }
        return parting.leastBeside(moves, j, s);
    }

    public int diameter() throws UnsupportedOperationException {
        if (isTooLarge()) {
            throw new UnsupportedOperationException("too many arrangements");
        }
        distances.measure(moves);
        return distances.greatest();
    }

    public int atDistance(int d) throws UnsupportedOperationException {
        if (isTooLarge()) {
            throw new UnsupportedOperationException("too many arrangements");
        }
        distances.measure(moves);
        return distances.countAt(d);
    }

    public int solve() throws UnsupportedOperationException, IllegalStateException {
        if (isTooLarge()) {
            throw new UnsupportedOperationException("too many arrangements");
        }
        if (!chain.contains(0, table)) {
            throw new IllegalStateException("not reachable");
        }
        distances.measure(moves);
        foundLength = distances.fillSolution(moves, table, found);
        return foundLength;
    }

    public int solution(int i) {
        return i >= 0 && i < foundLength ? found[i] : NONE;
    }

    public int within(int limit) throws IllegalArgumentException {
        if (limit < 0 || limit > FARTHEST_LIMIT) {
            throw new IllegalArgumentException("limit is not 0 .. 4");
        }
        return nearby.leastMoves(moves, table, limit);
    }

    public int write(int t) throws IndexOutOfBoundsException {
        if (t != NONE && !isTurn(t)) {
            throw new IndexOutOfBoundsException("no such turn");
        }
        text.setCycles(t == NONE ? table : moves.turnRow(t));
        return text.length();
    }

    public int character(int i) {
        return text.characterOrZero(i);
    }

    /** Stickers and places have the same numbers, so this tells of both. */
    private boolean isPlace(int number) {
        return number >= 0 && number < size;
    }

    private boolean isTurn(int number) {
        return number >= 0 && number < moves.turnCount();
    }

    private boolean isTooLarge() {
        return chain.size() > MOST_SEARCHED;
    }

    /**
     * A turn or an arrangement as one long, four bits for each of twelve places: so no search makes objects. Places
     * that a smaller puzzle has not stay where they are, so no function here needs to know how many there are.
     */
    private static final class Row {
        static final long SOLVED = 0xBA9876543210L;
        private static final int BITS = 4;
        private static final long MASK = 15;

        static int at(long row, int place) {
            return (int) ((row >>> (BITS * place)) & MASK);
        }

        static long with(long row, int place, int image) {
            int shift = BITS * place;
            return (row & ~(MASK << shift)) | ((long) image << shift);
        }

        static long then(long first, long second) {
            long row = 0;
            for (int shift = 0; shift < BITS * MOST_STICKERS; shift += BITS) {
                int between = (int) ((first >>> shift) & MASK);
                row |= ((second >>> (BITS * between)) & MASK) << shift;
            }
            return row;
        }

        static long backwards(long row) {
            long back = 0;
            for (int place = 0; place < MOST_STICKERS; place++) {
                back |= (long) place << (BITS * at(row, place));
            }
            return back;
        }
    }

    /** The turns of the puzzle, each forwards and backwards, by the numbers of the moves. */
    private static final class Moves {
        private final long[] rows = new long[MOST_MOVES];
        private int count = 0;

        void clear() {
            count = 0;
        }

        void addTurn(long row) {
            if (count + 1 < MOST_MOVES) {
                rows[count] = row;
                rows[count + 1] = Row.backwards(row);
                count += 2;
            }
        }

        int count() {
            return count;
        }

        int turnCount() {
            return count / 2;
        }

        long row(int number) {
            return number >= 0 && number < count ? rows[number] : Row.SOLVED;
        }

        long turnRow(int turn) {
            return row(2 * turn);
        }
    }

    /** The text: what is typed, and what is written in cycles. */
    private static final class Text {
        private static final int LEAST = 32;
        private static final int GREATEST = 126;
        private static final int BYTES_OF_LONG = 8;

        private final int[] characters = new int[MOST_CHARACTERS];
        private int length = 0;

        int length() {
            return length;
        }

        int characterOrZero(int i) {
            return i >= 0 && i < length ? characters[i] : 0;
        }

        boolean append(long bytes, int n) {
            if (n < 1 || n > BYTES_OF_LONG || length + n > MOST_CHARACTERS || !arePlain(bytes, n)) {
                return false;
            }
            for (int i = 0; i < n; i++) {
                put(byteAt(bytes, i));
            }
            return true;
        }

        boolean keep(int n) {
            if (n < 0 || n > length) {
                return false;
            }
            length = n;
            return true;
        }

        void setCycles(long row) {
            length = 0;
            int written = 0;
            for (int start = 0; start < MOST_STICKERS; start++) {
                if (((written >>> start) & 1) == 0 && Row.at(row, start) != start) {
                    written |= putCycle(row, start);
                }
            }
        }

        /** Answers the places of the cycle, a bit each, so that none is written again. */
        private int putCycle(long row, int start) {
            put('(');
            putNumber(start);
            int written = 1 << start;
            int next = Row.at(row, start);
            for (int steps = 1; steps < MOST_STICKERS && next != start; steps++) {
                put(' ');
                putNumber(next);
                written |= 1 << next;
                next = Row.at(row, next);
            }
            put(')');
            return written;
        }

        private void putNumber(int number) {
            if (number > 9) {
                put('0' + number / 10);
            }
            put('0' + number % 10);
        }

        private void put(int character) {
            if (length < MOST_CHARACTERS) {
                characters[length] = character;
                length++;
            }
        }

        private static boolean arePlain(long bytes, int n) {
            for (int i = 0; i < n; i++) {
                int character = byteAt(bytes, i);
                if (character < LEAST || character > GREATEST) {
                    return false;
                }
            }
            return true;
        }

        private static int byteAt(long bytes, int i) {
            return (int) ((bytes >>> (8 * i)) & 255);
        }
    }

    /** Reads a text in cycles, and keeps the numbers that it read last. */
    private static final class CycleReader {
        private static final int NO_NUMBER = -1;

        private final int[] numbers = new int[MOST_CHARACTERS];
        private final boolean[] closesCycle = new boolean[MOST_CHARACTERS];
        private int count;
        private int firstOfCycle;
        private int current;
        private boolean isOpen;

        /** Whether the text is in cycles; only then do the other methods tell of it. */
        boolean read(Text text) {
            count = 0;
            current = NO_NUMBER;
            isOpen = false;
            for (int i = 0; i < text.length(); i++) {
                if (!take(text.characterOrZero(i))) {
                    return false;
                }
            }
            return !isOpen;
        }

        int greatest() {
            int greatest = NO_NUMBER;
            for (int i = 0; i < count; i++) {
                greatest = Math.max(greatest, numbers[i]);
            }
            return greatest;
        }

        boolean hasOneTwice() {
            for (int i = 0; i < count; i++) {
                for (int before = 0; before < i; before++) {
                    if (numbers[before] == numbers[i]) {
                        return true;
                    }
                }
            }
            return false;
        }

        long toRow() {
            long row = Row.SOLVED;
            int first = 0;
            for (int i = 0; i < count; i++) {
                if (closesCycle[i]) {
                    row = Row.with(row, numbers[i], numbers[first]);
                    first = i + 1;
                } else if (i + 1 < count) {
                    row = Row.with(row, numbers[i], numbers[i + 1]);
                }
            }
            return row;
        }

        private boolean take(int character) {
            if (character >= '0' && character <= '9') {
                return isOpen && takeDigit(character - '0');
            }
            endNumber();
            switch (character) {
                case ' ':
                    return true;
                case '(':
                    return openCycle();
                case ')':
                    return closeCycle();
                default:
                    return false;
            }
        }

        private boolean takeDigit(int digit) {
            if (current == NO_NUMBER) {
                current = digit;
                return true;
            }
            boolean mayGrow = current >= 1 && current <= 9;
            current = 10 * current + digit;
            return mayGrow;
        }

        private void endNumber() {
            if (current != NO_NUMBER && count < MOST_CHARACTERS) {
                numbers[count] = current;
                closesCycle[count] = false;
                count++;
            }
            current = NO_NUMBER;
        }

        private boolean openCycle() {
            if (isOpen) {
                return false;
            }
            isOpen = true;
            firstOfCycle = count;
            return true;
        }

        private boolean closeCycle() {
            if (!isOpen || count == firstOfCycle) {
                return false;
            }
            closesCycle[count - 1] = true;
            isOpen = false;
            return true;
        }
    }

    /**
     * The reachable arrangements as a chain of groups (Schreier and Sims): level k has those that leave the stickers
     * 0 .. k - 1 at their places, and for each place where sticker k can be then a way that takes it there.
     */
    private static final class Chain {
        private static final int LEVELS = MOST_STICKERS;
        /** A power of two above 12: any four bits of a row are an index within a level. */
        private static final int WIDTH = 16;

        private final long[] ways = new long[LEVELS * WIDTH];
        private final long[] waysBack = new long[LEVELS * WIDTH];
        private final int[] points = new int[LEVELS * WIDTH];
        private final int[] pointCounts = new int[LEVELS];
        private final int[] pointBits = new int[LEVELS];
        private final long[] makers = new long[LEVELS * WIDTH];
        private final int[] makerCounts = new int[LEVELS];

        Chain() {
            clear();
        }

        void clear() {
            for (int level = 0; level < LEVELS; level++) {
                makerCounts[level] = 0;
                pointCounts[level] = 0;
                pointBits[level] = 0;
                addPoint(level, level, Row.SOLVED);
            }
        }

        void learn(long row) {
            extend(0, row);
        }

        int pointCount(int level) {
            return pointCounts[level];
        }

        boolean hasPoint(int level, int place) {
            return ((pointBits[level] >>> place) & 1) == 1;
        }

        long size() {
            return sizeFrom(0);
        }

        boolean contains(int level, long row) {
            long rest = row;
            for (int at = level; at < LEVELS; at++) {
                int place = Row.at(rest, at);
                if (!hasPoint(at, place)) {
                    return false;
                }
                if (place != at) {
                    rest = Row.then(rest, waysBack[at * WIDTH + place]);
                }
            }
            return true;
        }

        /** The rank of a row that the chain contains. */
        long indexOf(long row) {
            long index = 0;
            long rest = row;
            long lead = Row.SOLVED;
            for (int level = 0; level < LEVELS; level++) {
                int place = Row.at(rest, level);
                index = index * pointCounts[level] + countBelow(level, lead, Row.at(row, level));
                rest = Row.then(rest, waysBack[level * WIDTH + place]);
                lead = Row.then(ways[level * WIDTH + place], lead);
            }
            return index;
        }

        /** The row of a rank that there is. */
        long atIndex(long index) {
            long left = index;
            long lead = Row.SOLVED;
            for (int level = 0; level < LEVELS; level++) {
                long below = sizeFrom(level + 1);
                long leadBack = Row.backwards(lead);
                for (int place = 0; place < LEVELS; place++) {
                    int point = Row.at(leadBack, place);
                    if (hasPoint(level, point)) {
                        if (left < below) {
                            lead = Row.then(ways[level * WIDTH + point], lead);
                            break;
                        }
                        left -= below;
                    }
                }
            }
            return lead;
        }

        private long sizeFrom(int first) {
            long size = 1;
            for (int level = first; level < LEVELS; level++) {
                size *= pointCounts[level];
            }
            return size;
        }

        /** How many places less than this one the sticker could have, when lead follows the level's own way. */
        private int countBelow(int level, long lead, int place) {
            int count = 0;
            for (int i = 0; i < pointCounts[level]; i++) {
                if (Row.at(lead, points[level * WIDTH + i]) < place) {
                    count++;
                }
            }
            return count;
        }

        /**
         * Makes the group of a level hold one row more. Each maker enlarges its group, and no chain of groups on
         * twelve places has more than sixteen, so the makers of a level have room.
         */
        private void extend(int level, long row) {
            if (level >= LEVELS || makerCounts[level] >= WIDTH || contains(level, row)) {
                return;
            }
            int newMaker = makerCounts[level];
            int oldPoints = pointCounts[level];
            makers[level * WIDTH + newMaker] = row;
            makerCounts[level]++;
            for (int i = 0; i < LEVELS && i < pointCounts[level]; i++) {
                int firstMaker = i < oldPoints ? newMaker : 0;
                for (int maker = firstMaker; maker <= newMaker; maker++) {
                    follow(level, points[level * WIDTH + i], makers[level * WIDTH + maker]);
                }
            }
        }

        /** Where a maker leads from a point is a new point, or gives a row that the next level must hold. */
        private void follow(int level, int point, long maker) {
            long row = Row.then(ways[level * WIDTH + point], maker);
            int place = Row.at(row, level);
            if (hasPoint(level, place)) {
                extend(level + 1, Row.then(row, waysBack[level * WIDTH + place]));
            } else {
                addPoint(level, place, row);
            }
        }

        private void addPoint(int level, int place, long way) {
            ways[level * WIDTH + place] = way;
            waysBack[level * WIDTH + place] = Row.backwards(way);
            points[level * WIDTH + pointCounts[level]] = place;
            pointCounts[level]++;
            pointBits[level] |= 1 << place;
        }
    }

    /** Parts the stickers into classes, each told by its least sticker. */
    private static final class Parting {
        private final int[] least = new int[MOST_STICKERS];

        int leastBeside(Moves moves, int j, int s) {
            partByOrbit(moves);
            int leastOfOrbit = least[j];
            if (least[s] != leastOfOrbit) {
                return NONE;
            }
            partEach();
            join(j, leastOfOrbit);
            boolean joined = true;
            for (int pass = 0; joined && pass < MOST_STICKERS; pass++) {
                joined = joinImages(moves);
            }
            return least[s];
        }

        private void partEach() {
            for (int place = 0; place < MOST_STICKERS; place++) {
                least[place] = place;
            }
        }

        private void partByOrbit(Moves moves) {
            partEach();
            for (int turn = 0; turn < moves.turnCount(); turn++) {
                for (int place = 0; place < MOST_STICKERS; place++) {
                    join(place, Row.at(moves.turnRow(turn), place));
                }
            }
        }

        /** What a turn takes from one class must come into one class. */
        private boolean joinImages(Moves moves) {
            boolean joined = false;
            for (int turn = 0; turn < moves.turnCount(); turn++) {
                long row = moves.turnRow(turn);
                for (int place = 0; place < MOST_STICKERS; place++) {
                    if (join(Row.at(row, place), Row.at(row, least[place]))) {
                        joined = true;
                    }
                }
            }
            return joined;
        }

        private boolean join(int a, int b) {
            int low = Math.min(least[a], least[b]);
            int high = Math.max(least[a], least[b]);
            for (int place = 0; low != high && place < MOST_STICKERS; place++) {
                if (least[place] == high) {
                    least[place] = low;
                }
            }
            return low != high;
        }
    }

    /** All reachable arrangements of a puzzle that has few, nearest to the solved one first, with their distances. */
    private static final class Distances {
        private static final int SLOTS = 2048;
        private static final long SCATTER = 0x9E3779B97F4A7C15L;
        /** Leaves the eleven highest bits of a product, which all bits of the row have stirred. */
        private static final int SCATTER_SHIFT = 53;

        private final long[] rows = new long[MOST_SEARCHED];
        private final int[] distances = new int[MOST_SEARCHED];
        /** For each slot of the hash table one more than the index of its row; 0 when it is empty. */
        private final int[] slots = new int[SLOTS];
        private int count = 0;

        void forget() {
            count = 0;
        }

        /** Searches only if that has not been done since the turns changed. */
        void measure(Moves moves) {
            if (count > 0) {
                return;
            }
            Arrays.fill(slots, 0);
            add(Row.SOLVED, 0);
            for (int i = 0; i < MOST_SEARCHED && i < count; i++) {
                for (int move = 0; move < moves.count(); move++) {
                    add(Row.then(rows[i], moves.row(move)), distances[i] + 1);
                }
            }
        }

        int greatest() {
            return count > 0 ? distances[count - 1] : 0;
        }

        int countAt(int distance) {
            int number = 0;
            for (int i = 0; i < count; i++) {
                if (distances[i] == distance) {
                    number++;
                }
            }
            return number;
        }

        /** The least move that leads nearer, again and again, is the first of all shortest rows of moves. */
        int fillSolution(Moves moves, long start, int[] solution) {
            int length = Math.min(distanceOf(start), solution.length);
            long row = start;
            for (int i = 0; i < length; i++) {
                int move = moveTo(moves, row, length - i - 1);
                solution[i] = move;
                row = Row.then(row, moves.row(move));
            }
            return length;
        }

        private int moveTo(Moves moves, long row, int distance) {
            for (int move = 0; move < moves.count(); move++) {
                if (distanceOf(Row.then(row, moves.row(move))) == distance) {
                    return move;
                }
            }
            return NONE;
        }

        private int distanceOf(long row) {
            int held = slots[slotOf(row)];
            return held > 0 ? distances[held - 1] : NONE;
        }

        private void add(long row, int distance) {
            int slot = slotOf(row);
            if (slots[slot] == 0 && count < MOST_SEARCHED) {
                rows[count] = row;
                distances[count] = distance;
                count++;
                slots[slot] = count;
            }
        }

        /** The slot that has the row, or the empty one where it would be; there are more slots than rows. */
        private int slotOf(long row) {
            int slot = (int) ((row * SCATTER) >>> SCATTER_SHIFT);
            for (int steps = 0; steps < SLOTS; steps++) {
                int held = slots[slot];
                if (held == 0 || rows[held - 1] == row) {
                    break;
                }
                slot = (slot + 1) % SLOTS;
            }
            return slot;
        }
    }

    /**
     * Looks for few moves in a puzzle of any size: at most two from the arrangement and at most two from the solved
     * one meet, so hundreds of arrangements are made and not ten thousand.
     */
    private static final class Nearby {
        private static final int LAYERS = FARTHEST_LIMIT / 2;
        private static final int MOST_ROWS = 1 + MOST_MOVES + MOST_MOVES * MOST_MOVES;

        private final long[] rowsFromHere = new long[MOST_ROWS];
        private final long[] rowsFromSolved = new long[MOST_ROWS];
        /** Layer d, all that d moves lead to, begins at layerStarts[d] (layer 0 at 0) and ends before the next. */
        private final int[] layerStarts = new int[LAYERS + 2];

        int leastMoves(Moves moves, long row, int limit) {
            fillLayers(moves, row, rowsFromHere);
            fillLayers(moves, Row.SOLVED, rowsFromSolved);
            for (int sum = 0; sum <= limit; sum++) {
                int fromHere = Math.min(sum, LAYERS);
                if (layersMeet(fromHere, sum - fromHere)) {
                    return sum;
                }
            }
            return NONE;
        }

        private void fillLayers(Moves moves, long start, long[] rows) {
            rows[0] = start;
            layerStarts[1] = 1;
            int end = 1;
            for (int layer = 1; layer <= LAYERS; layer++) {
                for (int i = layerStarts[layer - 1]; i < layerStarts[layer]; i++) {
                    for (int move = 0; move < moves.count() && end < MOST_ROWS; move++) {
                        rows[end] = Row.then(rows[i], moves.row(move));
                        end++;
                    }
                }
                layerStarts[layer + 1] = end;
            }
        }

        private boolean layersMeet(int fromHere, int fromSolved) {
            for (int i = layerStarts[fromHere]; i < layerStarts[fromHere + 1]; i++) {
                for (int k = layerStarts[fromSolved]; k < layerStarts[fromSolved + 1]; k++) {
                    if (rowsFromHere[i] == rowsFromSolved[k]) {
                        return true;
                    }
                }
            }
            return false;
        }
    }
}
