import java.util.Random;

/** Runs of calls told by fixed seeds: every answer of the class beside the model's. */
public final class RandomRunsTest {
    private static final int[] EDGES = {
        Integer.MIN_VALUE, Integer.MIN_VALUE + 1, -4096, -4095, -257, -256, -64, -1, 0, 1, 63, 64, 255, 256, 257,
        511, 512, 3839, 3840, 4031, 4032, 4094, 4095, 4096, 8191, 65536, Integer.MAX_VALUE - 1, Integer.MAX_VALUE};

    /** What later calls answer is free. */
    private static final int LIFE = 512;
    /** More calls than any step makes, but for the bytes that passOn() puts. */
    private static final int STEP = 60;

    private final Checks checks;
    private final Random random;
    private final String name;
    /** Most objects are asked behind every step; some act on and on, and are asked now and then. */
    private final boolean busy;
    private final PieceSets sets = new PieceSets();
    private final Model model = new Model();
    private int calls = 0;

    private RandomRunsTest(Checks checks, int seed) {
        this.checks = checks;
        this.random = new Random(seed);
        this.name = "seed " + seed + ": ";
        this.busy = seed % 6 == 0;
    }

    private void due(String call, long got, long want) {
        calls++;
        checks.due(name + call, got, want);
    }

    private int set() {
        return random.nextInt(40) == 0 ? (random.nextBoolean() ? -1 : 6) : random.nextInt(6);
    }

    private int kind() {
        return random.nextInt(5) - 1;
    }

    private int number() {
        int which = random.nextInt(4);
        return which == 0 ? EDGES[random.nextInt(EDGES.length)] : random.nextInt(4096);
    }

    private int small(int bound) {
        return random.nextInt(30) == 0 ? EDGES[random.nextInt(EDGES.length)] : random.nextInt(bound);
    }

    private int behind(int from) {
        int which = random.nextInt(6);
        if (which == 0) {
            return number();
        }
        return from + (which < 4 ? random.nextInt(4) : random.nextInt(which == 4 ? 300 : 4096));
    }

    private void act() {
        int s = set();
        int from = number();
        int to = behind(from);
        switch (random.nextInt(8)) {
            case 0, 1 -> due("add " + s + " " + from + " " + to, sets.add(s, from, to), model.add(s, from, to));
            case 2 -> due("remove " + s + " " + from + " " + to, sets.remove(s, from, to), model.remove(s, from, to));
            case 3 -> due("flip " + s + " " + from + " " + to, sets.flip(s, from, to), model.flip(s, from, to));
            case 4 -> {
                int seed = random.nextInt();
                int many = small(302);
                String call = "scatter " + s + " " + seed + " " + many;
                due(call, sets.scatter(s, seed, many), model.scatter(s, seed, many));
            }
            case 5, 6 -> {
                int op = random.nextInt(20) == 0 ? 4 * random.nextInt(2) - 1 + random.nextInt(2) : random.nextInt(4);
                int t = set();
                int u = set();
                String call = "combine " + op + " " + s + " " + t + " " + u;
                due(call, sets.combine(op, s, t, u), model.combine(op, s, t, u));
            }
            default -> {
                int by = random.nextInt(3) == 0 ? number() : random.nextInt(141) - 70;
                due("shift " + s + " " + by, sets.shift(s, by), model.shift(s, by));
            }
        }
    }

    private void ask() {
        int s = set();
        int t = set();
        int x = number();
        boolean up = random.nextBoolean();
        due("size " + s, sets.size(s), model.size(s));
        due("contains " + s + " " + x, sets.contains(s, x), model.contains(s, x));
        due("rank " + s + " " + x, sets.rank(s, x), model.rank(s, x));
        due("near " + s + " " + x + " " + up, sets.near(s, x, up), model.near(s, x, up));
        due("runs " + s, sets.runs(s), model.runs(s));
        due("bytes " + s, sets.bytes(s), model.bytes(s));
        int i = small(Math.max(model.size(s), 0) + 2);
        due("select " + s + " " + i, sets.select(s, i), model.select(s, i));
        int r = small(Math.max(model.runs(s), 0) + 2);
        due("run " + s + " " + r, sets.run(s, r), model.run(s, r));
        int p = small(17);
        int what = small(6);
        due("piece " + s + " " + p + " " + what, sets.piece(s, p, what), model.piece(s, p, what));
        int b = small(Math.max(model.bytes(s), 0) + 2);
        due("byteAt " + s + " " + b, sets.byteAt(s, b), model.byteAt(s, b));
        due("compare " + s + " " + t + " " + what, sets.compare(s, t, what), model.compare(s, t, what));
        due("alike " + s + " " + t + " " + up, sets.alike(s, t, up), model.alike(s, t, up));
        int k = kind();
        int l = kind();
        due("met " + k + " " + l, sets.met(k, l), model.met(k, l));
        due("converted " + k + " " + l, sets.converted(k, l), model.converted(k, l));
    }

    private void put(int b) {
        due("put " + b, sets.put(b), model.put(b));
    }

    /** Puts a set's bytes, often with one of them spoilt or the end cut off, and reads them. */
    private void passOn() {
        int s = random.nextInt(6);
        int length = model.bytes(s);
        int spoilt = random.nextInt(2) == 0 ? -1 : random.nextInt(length + 1);
        int end = random.nextInt(4) == 0 ? random.nextInt(length + 1) : length;
        for (int i = 0; i < end && i < 205 && calls < LIFE - STEP; i++) {
            int b = model.byteAt(s, i);
            if (i == spoilt) {
                b = random.nextBoolean() ? small(256) : b + random.nextInt(7) - 3;
            }
            put(b);
        }
        readAndClear();
    }

    /** Puts bytes of small pieces that are nearly right, and reads them. */
    private void makeUp() {
        int p = random.nextInt(3);
        for (int pieces = random.nextInt(4); pieces > 0; pieces--) {
            int kind = random.nextInt(2);
            int many = 1 + random.nextInt(4);
            put(4 * p + kind);
            put(many);
            int place = random.nextInt(20);
            for (int i = 0; i < many * (kind + 1); i++) {
                put(place);
                place += random.nextInt(8);
            }
            p += random.nextInt(8) == 0 ? 0 : 1 + random.nextInt(4);
        }
        readAndClear();
    }

    private void readAndClear() {
        int t = set();
        due("read " + t, sets.read(t), model.read(t));
        if (random.nextInt(4) != 0) {
            due("clear", sets.clear(), model.clear());
        }
    }

    private void step() {
        int which = random.nextInt(busy ? 60 : 20);
        if (which < 3) {
            passOn();
        } else if (which < 6) {
            makeUp();
        } else if (which % 6 == 0) {
            due("undo", sets.undo(), model.undo());
        } else {
            act();
        }
    }

    private void go() {
        while (calls <= LIFE - 2 * STEP) {
            step();
            if (!busy || random.nextInt(20) == 0) {
                ask();
                due("fingerprint", sets.fingerprint(), model.fingerprint());
            }
        }
        checks.holds(name + "the test itself makes " + calls + " calls", calls <= LIFE);
    }

    public static void main(String[] args) {
        Checks checks = new Checks();
        for (int seed = 0; seed < 1200; seed++) {
            new RandomRunsTest(checks, seed).go();
        }
        checks.end();
    }
}
