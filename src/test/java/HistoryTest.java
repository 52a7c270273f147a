/** Promises 25 and 26: the history and the fingerprint. */
public final class HistoryTest {
    private static final int NONE = PieceSets.NONE;
    private static final Checks CHECKS = new Checks();

    private static void due(String what, long got, long want) {
        CHECKS.due(what, got, want);
    }

    private static void promise25Undo() {
        PieceSets x = new PieceSets();
        due("25: none", x.undo(), NONE);
        long[] prints = new long[9];
        for (int i = 0; i < 8; i++) {
            prints[i] = x.fingerprint();
            x.add(i % 6, 100 * i, 150 * i);
        }
        for (int i = 4; i >= 0; i--) {
            due("25: states left", x.undo(), i);
            due("25: the state before act " + (3 + i), x.fingerprint(), prints[3 + i]);
        }
        due("25: the oldest ones were dropped", x.undo(), NONE);
        due("25: nothing changes then", x.fingerprint(), prints[3]);
        x.add(0, 4000, 4000);
        due("25: it goes on", x.undo(), 0);
        due("25: as it was", x.fingerprint(), prints[3]);
    }

    private static void everyActIsKept() {
        PieceSets x = new PieceSets();
        x.add(0, 0, 0);
        x.remove(0, 9, 9);
        x.shift(0, 0);
        x.combine(0, 0, 0, 0);
        x.read(1);
        due("25: five acts", x.undo(), 4);
        x.flip(0, 5, 5);
        due("25: flip", x.undo(), 4);
        x.scatter(0, 1, 1);
        due("25: scatter", x.undo(), 4);
        x.put(0);
        x.clear();
        x.put(64);
        x.read(1);
        x.add(0, 1, 0);
        x.shift(0, 5000);
        due("25: no acts, no errors are kept", x.undo(), 3);
        due("25: the buffer stays", x.clear(), 1);
    }

    private static void statesAreApart() {
        PieceSets x = new PieceSets();
        x.add(0, 0, 9);
        x.add(0, 20, 29);
        x.undo();
        x.add(0, 40, 49);
        x.add(0, 60, 69);
        x.undo();
        x.undo();
        due("25: numbers of the first act alone", x.size(0), 10);
        x.undo();
        due("25: none", x.size(0), 0);
    }

    private static long next(long print, long number) {
        return 31 * print + number;
    }

    private static void promise26Fingerprint() {
        PieceSets x = new PieceSets();
        long print = 163;
        for (int i = 0; i < 6 + 9 + 6; i++) {
            print = next(print, 0);
        }
        due("26: a new object", x.fingerprint(), print);
        x.add(1, 255, 258);
        x.add(4, 4095, 4095);
        x.combine(3, 1, 4, 2);
        x.combine(0, 1, 2, 4);
        x.add(1, 254, 254);
        x.add(1, 253, 253);
        long[] numbers = {
            0,
            6, 0, 1, 3, 1, 4, 1, 1, 3, 1, 4,
            4, 0, 0, 1, 1, 3, 1, 1, 3, 1, 4,
            0,
            4, 0, 0, 1, 1, 3, 1, 1, 3, 1, 4,
            0,
            1, 0, 0, 0, 1, 0, 0, 0, 0,
            1, 0, 0, 0, 0, 0,
            253, 254, 255, 256, 257, 258,
            255, 256, 257, 258,
            255, 256, 257, 258};
        print = 163;
        for (long number : numbers) {
            print = next(print, number);
        }
        due("26: a few sets", x.fingerprint(), print);
        due("26: the same again", x.fingerprint(), print);
        x.put(3);
        due("26: not of the buffer", x.fingerprint(), print);
        x.shift(0, 1);
        due("26: not of the history", x.fingerprint(), print);
    }

    private static void orderOfPairs() {
        PieceSets x = new PieceSets();
        x.add(0, 0, 9);
        x.remove(0, 1, 8);
        long print = 163;
        long[] numbers = {2, 0, 0, 2, 2, 4, 0, 0, 0, 0, 0, 0, 0, 0, 0, 0, 0, 0, 0, 0, 0, 0, 1, 0, 0, 0, 0, 9};
        for (long number : numbers) {
            print = next(print, number);
        }
        due("26: converted 1 0 stands third", x.fingerprint(), print);
        for (int n = 0; n < 4096; n += 63) {
            PieceSets one = new PieceSets();
            Model same = new Model();
            one.add(n % 6, n, n);
            same.add(n % 6, n, n);
            due("26: " + n + " alone", one.fingerprint(), same.fingerprint());
        }
        PieceSets low = new PieceSets();
        low.add(0, 64, 64);
        Model slow = new Model();
        slow.add(0, 64, 64);
        due("26: 64 alone", low.fingerprint(), slow.fingerprint());
        PieceSets full = new PieceSets();
        Model model = new Model();
        for (int s = 0; s < 6; s++) {
            full.add(s, 0, 4095);
            model.add(s, 0, 4095);
        }
        due("26: six full sets", full.fingerprint(), model.fingerprint());
    }

    public static void main(String[] args) {
        promise25Undo();
        everyActIsKept();
        statesAreApart();
        promise26Fingerprint();
        orderOfPairs();
        CHECKS.end();
    }
}
