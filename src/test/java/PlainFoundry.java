import java.util.ArrayList;
import java.util.Arrays;
import java.util.HashMap;
import java.util.List;
import java.util.Map;
import java.util.NoSuchElementException;
import java.util.TreeSet;

/**
 * The document once more, by the words of its terms and not by any cleverness: all reachable arrangements are made and
 * looked through. An arrangement is a String whose character s is the place of sticker s.
 */
public final class PlainFoundry implements Foundry {
    private final List<String> turns = new ArrayList<>();
    private final TreeSet<String> reachable = new TreeSet<>();
    private final Map<String, Integer> distances = new HashMap<>();
    private List<Integer> found = new ArrayList<>();
    private String text = "";
    private String table = solved(1);
    private int size = 1;

    /** Another object in the same state. */
    PlainFoundry copy() {
        PlainFoundry other = new PlainFoundry();
        other.turns.addAll(turns);
        other.found = new ArrayList<>(found);
        other.text = text;
        other.table = table;
        other.size = size;
        return other;
    }

    private static String solved(int n) {
        StringBuilder row = new StringBuilder();
        for (int i = 0; i < n; i++) {
            row.append((char) i);
        }
        return row.toString();
    }

    private static String after(String row, String turn) {
        StringBuilder after = new StringBuilder();
        for (char place : row.toCharArray()) {
            after.append(turn.charAt(place));
        }
        return after.toString();
    }

    private static String moved(String row, String turn, boolean backwards) {
        if (!backwards) {
            return after(row, turn);
        }
        StringBuilder before = new StringBuilder();
        for (char place : row.toCharArray()) {
            before.append((char) turn.indexOf(place));
        }
        return before.toString();
    }

    private String moved(String row, int move) {
        return moved(row, turns.get(move / 2), move % 2 == 1);
    }

    private void check(int... numbers) {
        for (int number : numbers) {
            if (number < 0 || number >= size) {
                throw new IndexOutOfBoundsException();
            }
        }
    }

    private void checkTurn(int turn) {
        if (turn < 0 || turn >= turns.size()) {
            throw new IndexOutOfBoundsException();
        }
    }

    /** By breadth, so that each is met first with its distance. */
    private TreeSet<String> all() {
        if (reachable.isEmpty()) {
            distances.clear();
            List<String> queue = new ArrayList<>(List.of(solved(size)));
            distances.put(solved(size), 0);
            for (int i = 0; i < queue.size(); i++) {
                for (int move = 0; move < 2 * turns.size(); move++) {
                    String next = moved(queue.get(i), move);
                    if (!distances.containsKey(next)) {
                        distances.put(next, distances.get(queue.get(i)) + 1);
                        queue.add(next);
                    }
                }
            }
            reachable.addAll(queue);
        }
        return reachable;
    }

    @Override
    public boolean stickers(int n) {
        if (n < 1 || n > 12) {
            return false;
        }
        size = n;
        table = solved(n);
        turns.clear();
        reachable.clear();
        return true;
    }

    @Override
    public boolean type(long w, int n) {
        String more = "";
        for (int i = 0; i < n && i < 8; i++) {
            more += (char) (w >> 8 * i & 255);
        }
        if (n < 1 || n > 8 || text.length() + n > 48 || !more.matches("[ -~]*")) {
            return false;
        }
        text += more;
        return true;
    }

    @Override
    public boolean cut(int n) {
        if (n < 0 || n > text.length()) {
            return false;
        }
        text = text.substring(0, n);
        return true;
    }

    @Override
    public int turn() {
        if (!text.matches(" *(\\( *(0|[1-9][0-9]?)( +(0|[1-9][0-9]?))* *\\) *)*")) {
            throw new IllegalArgumentException();
        }
        List<Integer> seen = new ArrayList<>();
        List<List<Integer>> cycles = new ArrayList<>();
        for (String cycle : text.replaceAll("[( ]+", " ").split("\\)")) {
            List<Integer> numbers = new ArrayList<>();
            for (String number : cycle.trim().split(" ")) {
                if (!number.isEmpty()) {
                    numbers.add(Integer.parseInt(number));
                }
            }
            cycles.add(numbers);
            seen.addAll(numbers);
        }
        for (int number : seen) {
            check(number);
        }
        if (seen.stream().distinct().count() < seen.size()) {
            throw new IllegalStateException();
        }
        if (turns.size() == 5) {
            throw new UnsupportedOperationException();
        }
        char[] row = solved(size).toCharArray();
        for (List<Integer> cycle : cycles) {
            for (int i = 0; i < cycle.size(); i++) {
                row[cycle.get(i)] = (char) (int) cycle.get((i + 1) % cycle.size());
            }
        }
        turns.add(new String(row));
        reachable.clear();
        return turns.size() - 1;
    }

    @Override
    public int turns() {
        return turns.size();
    }

    @Override
    public int image(int turn, int place) {
        check(place);
        checkTurn(turn);
        return turns.get(turn).charAt(place);
    }

    @Override
    public void move(int move) {
        if (move < 0 || move >= 2 * turns.size()) {
            throw new IndexOutOfBoundsException();
        }
        table = moved(table, move);
    }

    @Override
    public void swap(int a, int b) {
        check(a, b);
        char[] row = table.toCharArray();
        int atA = table.indexOf(a);
        int atB = table.indexOf(b);
        row[atA] = (char) b;
        row[atB] = (char) a;
        table = new String(row);
    }

    @Override
    public void reset() {
        table = solved(size);
    }

    @Override
    public int place(int sticker) {
        check(sticker);
        return table.charAt(sticker);
    }

    @Override
    public long order() {
        return all().size();
    }

    @Override
    public int orbit(int k) {
        check(k);
        int count = 0;
        for (int p = 0; p < size; p++) {
            count += inOrbit(k, p) ? 1 : 0;
        }
        return count;
    }

    @Override
    public boolean inOrbit(int k, int p) {
        check(k, p);
        String start = solved(size).substring(0, k) + (char) p;
        String from = all().ceiling(start);
        return from != null && from.startsWith(start);
    }

    @Override
    public boolean reachable() {
        return all().contains(table);
    }

    @Override
    public long rank() {
        if (!reachable()) {
            throw new IllegalStateException();
        }
        return all().headSet(table).size();
    }

    @Override
    public void unrank(long rank) {
        if (rank < 0 || rank >= all().size()) {
            throw new NoSuchElementException();
        }
        table = new ArrayList<>(all()).get((int) rank);
    }

    /** Two are in one class if pairs that arrangements make of j and the least place lead from one to the other. */
    @Override
    public int block(int j, int s) {
        check(j, s);
        int least = j;
        boolean inOrbit = false;
        for (String row : all()) {
            least = Math.min(least, row.charAt(j));
            inOrbit |= row.charAt(j) == s;
        }
        if (!inOrbit) {
            return NONE;
        }
        boolean[] reached = new boolean[size];
        reached[s] = true;
        for (int pass = 0; pass < size; pass++) {
            for (String row : all()) {
                boolean either = reached[row.charAt(j)] || reached[row.charAt(least)];
                reached[row.charAt(j)] = either;
                reached[row.charAt(least)] = either;
            }
        }
        int first = 0;
        while (!reached[first]) {
            first++;
        }
        return first;
    }

    private void checkFew() {
        if (all().size() > 1500) {
            throw new UnsupportedOperationException();
        }
    }

    @Override
    public int diameter() {
        checkFew();
        return distances.values().stream().max(Integer::compare).get();
    }

    @Override
    public int atDistance(int d) {
        checkFew();
        return (int) distances.values().stream().filter(distance -> distance == d).count();
    }

    @Override
    public int solve() {
        checkFew();
        if (!reachable()) {
            throw new IllegalStateException();
        }
        int length = distances.get(table);
        found = new ArrayList<>();
        findSolution(table, length);
        return length;
    }

    /** All rows of so many moves, in order, till one leads to the solved one; hopeless ones are left at once. */
    private boolean findSolution(String row, int left) {
        if (distances.get(row) > left) {
            return false;
        }
        if (left == 0) {
            return true;
        }
        for (int move = 0; move < 2 * turns.size(); move++) {
            found.add(move);
            if (findSolution(moved(row, move), left - 1)) {
                return true;
            }
            found.remove(found.size() - 1);
        }
        return false;
    }

    @Override
    public int solution(int i) {
        return i >= 0 && i < found.size() ? found.get(i) : NONE;
    }

    @Override
    public int within(int limit) {
        if (limit < 0 || limit > 4) {
            throw new IllegalArgumentException();
        }
        TreeSet<String> rows = new TreeSet<>(List.of(table));
        for (int count = 0; count <= limit; count++) {
            if (rows.contains(solved(size))) {
                return count;
            }
            TreeSet<String> next = new TreeSet<>();
            for (String row : rows) {
                for (int move = 0; move < 2 * turns.size(); move++) {
                    next.add(moved(row, move));
                }
            }
            rows = next;
        }
        return NONE;
    }

    @Override
    public int write(int t) {
        if (t != NONE) {
            checkTurn(t);
        }
        String row = t == NONE ? table : turns.get(t);
        boolean[] written = new boolean[size];
        text = "";
        for (int start = 0; start < size; start++) {
            List<String> cycle = new ArrayList<>();
            for (int place = start; !written[place]; place = row.charAt(place)) {
                written[place] = true;
                cycle.add(Integer.toString(place));
            }
            text += cycle.size() < 2 ? "" : "(" + String.join(" ", cycle) + ")";
        }
        return text.length();
    }

    @Override
    public int character(int i) {
        return i >= 0 && i < text.length() ? text.charAt(i) : 0;
    }

    @Override
    public String toString() {
        return size + " stickers, turns " + turns.stream().map(t -> Arrays.toString(t.toCharArray())).toList();
    }
}
