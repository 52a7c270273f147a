import java.util.ArrayDeque;
import java.util.ArrayList;
import java.util.List;
import java.util.TreeSet;

/** The document's sets once more, number by number and as slow as may be, to compare the class with. */
final class Model {
    private static final int BAD = -1;
    private static final int FULL = -3;
    private static final int NONE = -9;

    private List<TreeSet<Integer>> sets = new ArrayList<>();
    private int[][] met = new int[3][3];
    private int[][] converted = new int[3][3];
    private final List<Integer> buffer = new ArrayList<>();
    private final ArrayDeque<Object[]> history = new ArrayDeque<>();

    Model() {
        for (int s = 0; s < 6; s++) {
            sets.add(new TreeSet<>());
        }
    }

    private static boolean set(int s) {
        return 0 <= s && s <= 5;
    }

    private static boolean range(int from, int to) {
        return 0 <= from && from <= to && to <= 4095;
    }

    private static int[][] copy(int[][] table) {
        int[][] copied = new int[3][];
        for (int i = 0; i < 3; i++) {
            copied[i] = table[i].clone();
        }
        return copied;
    }

    private void become(int s, TreeSet<Integer> numbers) {
        history.addLast(new Object[] {new ArrayList<>(sets), copy(met), copy(converted)});
        if (history.size() > 5) {
            history.removeFirst();
        }
        for (int p = 0; p < 16; p++) {
            int before = kind(places(sets.get(s), p));
            int behind = kind(places(numbers, p));
            if (before != NONE && behind != NONE && before != behind) {
                converted[before][behind]++;
            }
        }
        sets.set(s, numbers);
    }

    private static TreeSet<Integer> places(TreeSet<Integer> numbers, int p) {
        TreeSet<Integer> places = new TreeSet<>();
        for (int x : numbers.subSet(256 * p, 256 * p + 256)) {
            places.add(x - 256 * p);
        }
        return places;
    }

    private static List<int[]> runsOf(TreeSet<Integer> numbers) {
        List<int[]> runs = new ArrayList<>();
        int[] open = null;
        for (int x : numbers) {
            if (open != null && open[1] + 1 == x) {
                open[1] = x;
            } else {
                open = new int[] {x, x};
                runs.add(open);
            }
        }
        return runs;
    }

    private static int kind(TreeSet<Integer> places) {
        if (places.isEmpty()) {
            return NONE;
        }
        int[] cost = {2 + places.size(), 2 + 2 * runsOf(places).size(), 33};
        int best = 0;
        for (int kind = 1; kind < 3; kind++) {
            if (cost[kind] < cost[best]) {
                best = kind;
            }
        }
        return best;
    }

    private static List<Integer> pieceBytes(TreeSet<Integer> numbers, int p) {
        TreeSet<Integer> places = places(numbers, p);
        List<Integer> written = new ArrayList<>();
        int kind = kind(places);
        if (kind == NONE) {
            return written;
        }
        written.add(4 * p + kind);
        if (kind == 0) {
            written.add(places.size());
            written.addAll(places);
        } else if (kind == 1) {
            written.add(runsOf(places).size());
            for (int[] run : runsOf(places)) {
                written.add(run[0]);
                written.add(run[1]);
            }
        } else {
            for (int k = 0; k < 32; k++) {
                int b = 0;
                for (int bit = 0; bit < 8; bit++) {
                    b += places.contains(8 * k + bit) ? 1 << bit : 0;
                }
                written.add(b);
            }
        }
        return written;
    }

    private static List<Integer> written(TreeSet<Integer> numbers) {
        List<Integer> written = new ArrayList<>();
        for (int p = 0; p < 16; p++) {
            written.addAll(pieceBytes(numbers, p));
        }
        return written;
    }

    int add(int s, int from, int to) {
        if (!set(s) || !range(from, to)) {
            return BAD;
        }
        TreeSet<Integer> numbers = new TreeSet<>(sets.get(s));
        int news = 0;
        for (int x = from; x <= to; x++) {
            news += numbers.add(x) ? 1 : 0;
        }
        become(s, numbers);
        return news;
    }

    int remove(int s, int from, int to) {
        if (!set(s) || !range(from, to)) {
            return BAD;
        }
        TreeSet<Integer> numbers = new TreeSet<>(sets.get(s));
        int gone = 0;
        for (int x = from; x <= to; x++) {
            gone += numbers.remove(x) ? 1 : 0;
        }
        become(s, numbers);
        return gone;
    }

    int flip(int s, int from, int to) {
        if (!set(s) || !range(from, to)) {
            return BAD;
        }
        TreeSet<Integer> numbers = new TreeSet<>(sets.get(s));
        int in = 0;
        for (int x = from; x <= to; x++) {
            if (!numbers.remove(x)) {
                numbers.add(x);
                in++;
            }
        }
        become(s, numbers);
        return in;
    }

    int scatter(int s, int seed, int many) {
        if (!set(s) || many < 1 || many > 300) {
            return BAD;
        }
        TreeSet<Integer> numbers = new TreeSet<>(sets.get(s));
        long x = seed;
        for (int i = 0; i < many; i++) {
            x = (1103515245L * x + 12345L) & 0xffffffffL;
            numbers.add((int) (x / 65536 % 4096));
        }
        become(s, numbers);
        return numbers.size();
    }

    private TreeSet<Integer> combined(int op, int s, int t) {
        TreeSet<Integer> numbers = new TreeSet<>();
        for (int x = 0; x < 4096; x++) {
            boolean a = sets.get(s).contains(x);
            boolean b = sets.get(t).contains(x);
            if (op == 0 && a && b || op == 1 && (a || b) || op == 2 && a != b || op == 3 && a && !b) {
                numbers.add(x);
            }
        }
        return numbers;
    }

    int combine(int op, int s, int t, int u) {
        if (op < 0 || op > 3 || !set(s) || !set(t) || !set(u)) {
            return BAD;
        }
        TreeSet<Integer> first = sets.get(s);
        TreeSet<Integer> second = sets.get(t);
        become(u, combined(op, s, t));
        for (int p = 0; p < 16; p++) {
            int a = kind(places(first, p));
            int b = kind(places(second, p));
            if (a != NONE && b != NONE) {
                met[a][b]++;
            }
        }
        return sets.get(u).size();
    }

    int shift(int s, int by) {
        if (!set(s) || by < -4095 || by > 4095) {
            return BAD;
        }
        TreeSet<Integer> numbers = new TreeSet<>();
        int lost = 0;
        for (int x : sets.get(s)) {
            if (range(x + by, x + by)) {
                numbers.add(x + by);
            } else {
                lost++;
            }
        }
        become(s, numbers);
        return lost;
    }

    int size(int s) {
        return set(s) ? sets.get(s).size() : BAD;
    }

    int contains(int s, int x) {
        return !set(s) ? BAD : sets.get(s).contains(x) ? 1 : 0;
    }

    int rank(int s, int x) {
        return set(s) ? sets.get(s).headSet(x, true).size() : BAD;
    }

    int select(int s, int i) {
        if (!set(s) || i < 0) {
            return BAD;
        }
        return i < sets.get(s).size() ? new ArrayList<>(sets.get(s)).get(i) : NONE;
    }

    int near(int s, int x, boolean up) {
        if (!set(s)) {
            return BAD;
        }
        Integer found = up ? sets.get(s).ceiling(x) : sets.get(s).floor(x);
        return found == null ? NONE : found;
    }

    int runs(int s) {
        return set(s) ? runsOf(sets.get(s)).size() : BAD;
    }

    int run(int s, int i) {
        if (!set(s) || i < 0) {
            return BAD;
        }
        List<int[]> runs = runsOf(sets.get(s));
        return i < runs.size() ? 4096 * runs.get(i)[0] + runs.get(i)[1] : NONE;
    }

    int piece(int s, int p, int what) {
        if (!set(s) || p < 0 || p > 15 || what < 0 || what > 3) {
            return BAD;
        }
        TreeSet<Integer> places = places(sets.get(s), p);
        int[] details = {kind(places), places.size(), runsOf(places).size(), pieceBytes(sets.get(s), p).size()};
        return details[what];
    }

    int bytes(int s) {
        return set(s) ? written(sets.get(s)).size() : BAD;
    }

    int byteAt(int s, int i) {
        if (!set(s) || i < 0) {
            return BAD;
        }
        List<Integer> written = written(sets.get(s));
        return i < written.size() ? written.get(i) : NONE;
    }

    int put(int b) {
        if (b < 0 || b > 255) {
            return BAD;
        }
        if (buffer.size() == 200) {
            return FULL;
        }
        buffer.add(b);
        return buffer.size();
    }

    int clear() {
        int had = buffer.size();
        buffer.clear();
        return had;
    }

    /** Byte by byte, each asked what it is for: what is built so far tells what may come next. */
    private int errorPlace(TreeSet<Integer> numbers) {
        int begins = -1;
        int lastPiece = -1;
        int awaited = 0;
        int unit = 0;
        TreeSet<Integer> places = new TreeSet<>();
        for (int i = 0; i < buffer.size(); i++) {
            int b = buffer.get(i);
            if (begins < 0) {
                if (b > 63 || b % 4 == 3 || b / 4 <= lastPiece) {
                    return i;
                }
                begins = i;
                lastPiece = b / 4;
                places.clear();
                awaited = b % 4 == 2 ? 32 : -1;
                unit = 0;
                continue;
            }
            int kind = buffer.get(begins) % 4;
            if (awaited < 0) {
                if (b == 0) {
                    return i;
                }
                awaited = kind == 0 ? b : 2 * b;
                continue;
            }
            if (kind == 2) {
                for (int bit = 0; bit < 8; bit++) {
                    if ((b & 1 << bit) != 0) {
                        places.add(8 * unit + bit);
                    }
                }
            } else if (kind == 0) {
                if (!places.isEmpty() && b <= places.last()) {
                    return i;
                }
                places.add(b);
            } else if (unit % 2 == 0) {
                if (!places.isEmpty() && b < places.last() + 2) {
                    return i;
                }
                places.add(b);
            } else {
                if (b < places.last()) {
                    return i;
                }
                for (int x = places.last() + 1; x <= b; x++) {
                    places.add(x);
                }
            }
            unit++;
            if (unit == awaited) {
                if (kind(places) != kind) {
                    return begins;
                }
                for (int x : places) {
                    numbers.add(256 * lastPiece + x);
                }
                begins = -1;
            }
        }
        return begins < 0 ? -1 : buffer.size();
    }

    int read(int s) {
        if (!set(s)) {
            return BAD;
        }
        TreeSet<Integer> numbers = new TreeSet<>();
        int place = errorPlace(numbers);
        if (place >= 0) {
            return -100 - place;
        }
        become(s, numbers);
        buffer.clear();
        return numbers.size();
    }

    int compare(int s, int t, int what) {
        if (!set(s) || !set(t) || what < 0 || what > 4) {
            return BAD;
        }
        if (what == 0) {
            return combined(0, s, t).size();
        }
        if (what == 1) {
            return combined(2, s, t).size();
        }
        if (what == 2) {
            return sets.get(t).containsAll(sets.get(s)) ? 1 : 0;
        }
        if (what == 4) {
            return combined(2, s, t).isEmpty() ? NONE : combined(2, s, t).first();
        }
        int same = 0;
        for (int p = 0; p < 16; p++) {
            same += places(sets.get(s), p).equals(places(sets.get(t), p)) ? 1 : 0;
        }
        return same;
    }

    int alike(int s, int t, boolean below) {
        if (!set(s) || !set(t)) {
            return BAD;
        }
        int above = combined(0, s, t).size();
        int under = combined(1, s, t).size();
        if (under == 0) {
            return 1;
        }
        for (int d = under; d > 1; d--) {
            if (above % d == 0 && under % d == 0) {
                above /= d;
                under /= d;
            }
        }
        return below ? under : above;
    }

    int met(int a, int b) {
        return a < 0 || a > 2 || b < 0 || b > 2 ? BAD : met[a][b];
    }

    int converted(int from, int to) {
        return from < 0 || from > 2 || to < 0 || to > 2 || from == to ? BAD : converted[from][to];
    }

    @SuppressWarnings("unchecked")
    int undo() {
        if (history.isEmpty()) {
            return NONE;
        }
        Object[] state = history.removeLast();
        sets = (List<TreeSet<Integer>>) state[0];
        met = (int[][]) state[1];
        converted = (int[][]) state[2];
        return history.size();
    }

    long fingerprint() {
        List<Long> numbers = new ArrayList<>();
        for (int s = 0; s < 6; s++) {
            numbers.add((long) size(s));
            for (int p = 0; p < 16; p++) {
                if (piece(s, p, 1) > 0) {
                    numbers.add((long) p);
                    for (int what = 0; what < 4; what++) {
                        numbers.add((long) piece(s, p, what));
                    }
                }
            }
        }
        for (int a = 0; a < 3; a++) {
            for (int b = 0; b < 3; b++) {
                numbers.add((long) met[a][b]);
            }
        }
        int[][] pairs = {{0, 1}, {0, 2}, {1, 0}, {1, 2}, {2, 0}, {2, 1}};
        for (int[] pair : pairs) {
            numbers.add((long) converted[pair[0]][pair[1]]);
        }
        for (int s = 0; s < 6; s++) {
            for (int x : sets.get(s)) {
                numbers.add((long) x);
            }
        }
        long print = 163;
        for (long number : numbers) {
            print = 31 * print + number;
        }
        return print;
    }
}
