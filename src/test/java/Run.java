import java.lang.reflect.InvocationTargetException;
import java.lang.reflect.Method;
import java.util.ArrayList;
import java.util.Arrays;
import java.util.List;
import java.util.Set;

/**
 * A run of calls on a new object, each with the answer that is due: "add 0 5 9 = 5".
 * A twin of the object gets those calls alone that may change something and are not refused; as both must be
 * alike at the end, every run also shows that the calls refused in it, and those that only ask, change nothing.
 */
final class Run {
    private static final int LIFE = 512;
    private static final int CALLS_OF_TRACE = 16;
    private static final Set<String> CHANGING =
        Set.of("add", "remove", "flip", "scatter", "combine", "shift", "put", "clear", "read", "undo");

    private final Checks checks;
    private final String name;
    private PieceSets sets;
    private PieceSets twin;
    private int calls;
    private int held;
    private int asked = 0;

    Run(Checks checks, String name) {
        this.checks = checks;
        this.name = name;
        begin();
    }

    private void begin() {
        sets = new PieceSets();
        twin = new PieceSets();
        calls = 0;
        held = 0;
    }

    /** Ends the run so far; what follows is a run on another new object. */
    Run anew() {
        end();
        begin();
        return this;
    }

    void end() {
        checks.holds(name + "the test itself makes more calls than an object is for", calls <= LIFE);
        if (calls + CALLS_OF_TRACE <= LIFE) {
            List<Long> trace = trace(sets);
            List<Long> due = trace(twin);
            checks.holds(name + "a call that may change nothing did: " + trace + ", due is " + due, trace.equals(due));
        }
    }

    /** How many answers have been looked at in all. */
    int asked() {
        return asked;
    }

    /** All that can be seen of an object; it is of no use behind this. */
    private List<Long> trace(PieceSets x) {
        List<Long> seen = new ArrayList<>();
        seen.add(call(x, "fingerprint", List.of()));
        for (int i = 0; i < 6; i++) {
            seen.add(call(x, "undo", List.of()));
            seen.add(call(x, "fingerprint", List.of()));
        }
        seen.add(call(x, "read", List.of("5")));
        seen.add(call(x, "fingerprint", List.of()));
        seen.add(call(x, "clear", List.of()));
        return seen;
    }

    /** Calls with the answers due to them; the words LEAST, MOST, BAD, FULL and NONE stand for their numbers. */
    Run due(String... lines) {
        for (String line : lines) {
            String[] sides = line.split(" = ");
            List<String> words = Arrays.asList(sides[0].split(" "));
            String method = words.get(0);
            List<String> arguments = words.subList(1, words.size());
            long want = number(sides[1]);
            checks.due(name + sides[0], call(sets, method, arguments), want);
            calls++;
            asked++;
            if (CHANGING.contains(method) && want >= 0) {
                call(twin, method, arguments);
                follow(method, want);
            }
        }
        return this;
    }

    private void follow(String method, long answer) {
        if (method.equals("put")) {
            held = (int) answer;
        } else if (method.equals("read") || method.equals("clear")) {
            held = 0;
        }
    }

    /** The line with each of the values in the place of its sign '%'. */
    Run each(String line, Object... values) {
        for (Object value : values) {
            due(line.replace("%", String.valueOf(value)));
        }
        return this;
    }

    /** Puts bytes behind those that are in the buffer. */
    Run put(int... bytes) {
        for (int b : bytes) {
            due("put " + b + " = " + (held + 1));
        }
        return this;
    }

    /** Puts a number of bytes that are all the same. */
    Run fill(int times, int b) {
        for (int i = 0; i < times; i++) {
            put(b);
        }
        return this;
    }

    /** The bytes with which a set is written, no more and no less. */
    Run written(int s, int... bytes) {
        due("bytes " + s + " = " + bytes.length);
        for (int i = 0; i < bytes.length; i++) {
            due("byteAt " + s + " " + i + " = " + bytes[i]);
        }
        return due("byteAt " + s + " " + bytes.length + " = NONE");
    }

    /** What piece() tells of a piece with numbers. */
    Run piece(int s, int p, int kind, int n, int r, int bytes) {
        int[] details = {kind, n, r, bytes};
        for (int what = 0; what < 4; what++) {
            due("piece " + s + " " + p + " " + what + " = " + details[what]);
        }
        return this;
    }

    /** Adds runs of a length to a piece, with gaps of one number, from its first number on. */
    Run comb(int s, int p, int runs, int length) {
        for (int i = 0; i < runs; i++) {
            int first = 256 * p + i * (length + 1);
            due("add " + s + " " + first + " " + (first + length - 1) + " = " + length);
        }
        return this;
    }

    /** Reads a set which has one piece, a bitmap whose bytes are all the same. */
    Run bitmap(int s, int p, int b) {
        return put(4 * p + 2).fill(32, b).due("read " + s + " = " + 32 * Integer.bitCount(b));
    }

    /** Makes a set one of piece 0 alone, of a kind: 3 and 4, or 0 to 99, or every second number from 0 to 254. */
    Run make(int s, int kind) {
        if (kind == 0) {
            return put(0, 2, 3, 4).due("read " + s + " = 2");
        }
        return kind == 1 ? put(1, 1, 0, 99).due("read " + s + " = 100") : bitmap(s, 0, 85);
    }

    /** How many numbers such sets have in both; with a = b the numbers of one. */
    static int inBoth(int a, int b) {
        int[] many = {2, 2, 1, 2, 100, 50, 1, 50, 128};
        return many[3 * a + b];
    }

    /** The runs of a set in their order, each as its first and its last number. */
    Run runs(int s, int... edges) {
        int many = edges.length / 2;
        due("runs " + s + " = " + many);
        for (int i = 0; i < many; i++) {
            due("run " + s + " " + i + " = " + (4096 * edges[2 * i] + edges[2 * i + 1]));
        }
        return due("run " + s + " " + many + " = NONE");
    }

    /** What converted() tells of the pairs 0 1, 0 2, 1 0, 1 2, 2 0, 2 1. */
    Run conversions(int... counts) {
        int i = 0;
        for (int from = 0; from < 3; from++) {
            for (int to = 0; to < 3; to++) {
                if (from != to) {
                    due("converted " + from + " " + to + " = " + counts[i]);
                    i++;
                }
            }
        }
        return this;
    }

    /** What met() tells of the pairs 0 0, 0 1, 0 2, 1 0 and so on. */
    Run meetings(int... counts) {
        for (int pair = 0; pair < 9; pair++) {
            due("met " + pair / 3 + " " + pair % 3 + " = " + counts[pair]);
        }
        return this;
    }

    /** The present fingerprint, to be compared with a later one. */
    long print() {
        calls++;
        return call(sets, "fingerprint", List.of());
    }

    /** An act of one call on a new object is kept, and undone as a whole. */
    Run isAct(String act, String... before) {
        due(before);
        long print = print();
        int states = Math.min(before.length + 1, 5);
        return due(act, "undo = " + (states - 1), "fingerprint = " + print);
    }

    private long call(PieceSets x, String name, List<String> words) {
        try {
            for (Method method : PieceSets.class.getMethods()) {
                if (method.getName().equals(name) && method.getParameterCount() == words.size()) {
                    Object[] arguments = new Object[words.size()];
                    for (int i = 0; i < arguments.length; i++) {
                        arguments[i] = argument(method.getParameterTypes()[i], words.get(i));
                    }
                    return ((Number) method.invoke(x, arguments)).longValue();
                }
            }
        } catch (InvocationTargetException thrown) {
            checks.holds(this.name + name + " " + words + " threw " + thrown.getCause(), false);
        } catch (IllegalAccessException refused) {
            checks.holds(this.name + name + " is not public", false);
        }
        checks.holds(this.name + "there is no answer to " + name + " " + words, false);
        return Long.MIN_VALUE;
    }

    private static Object argument(Class<?> type, String word) {
        if (type == boolean.class) {
            return Boolean.valueOf(word);
        }
        return (int) number(word);
    }

    private static long number(String word) {
        return switch (word) {
            case "LEAST" -> Integer.MIN_VALUE;
            case "MOST" -> Integer.MAX_VALUE;
            case "BAD" -> -1;
            case "FULL" -> -3;
            case "NONE" -> -9;
            default -> Long.parseLong(word);
        };
    }
}
