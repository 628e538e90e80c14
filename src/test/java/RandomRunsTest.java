import java.util.Random;

/** Runs of 512 mixed calls on one object, each answer against a plain model of the document. */
public final class RandomRunsTest {
    private static final int RUNS = 300;
    /** What an object answers behind its 512th call is free. */
    private static final int CALLS = 512;
    /** A swap is three calls at most. */
    private static final int MOST_AT_ONCE = 3;

    private final Random random;
    private final ReversibleParts x = new ReversibleParts();
    private int calls = 0;
    private int n = 1;
    private int[] table = {0, 1};
    private int[] needs = {0};

    private RandomRunsTest(int seed) {
        random = new Random(seed);
    }

    public static void main(String[] args) {
        for (int seed = 0; seed < RUNS; seed++) {
            RandomRunsTest run = new RandomRunsTest(seed);
            while (run.calls + MOST_AT_ONCE <= CALLS) {
                run.anyCall("run " + seed + " call " + run.calls + ": ");
            }
        }
        Check.finish();
    }

    private void anyCall(String where) {
        calls++;
        switch (random.nextInt(16)) {
            case 0 -> begin(where, random.nextInt(4) == 0 ? near(6) : n);
            case 1, 2 -> put(where, near(1 << n), near(1 << n));
            case 3, 4 -> apply(where, near(64));
            case 5 -> swap(where);
            case 6 -> gate(where, near(30));
            case 7 -> look(where, near(1 << n));
            case 8, 9 -> form(where, near(1 << (1 << n)), near(7));
            case 10 -> product(where, near(81));
            case 11 -> program(where, random.nextInt(4) == 0 ? near(14) : needs.length);
            case 12 -> need(where, near(needs.length), near(1 << random.nextInt(needs.length)));
            case 13 -> move(where, near(14), near(30));
            case 14 -> Check.due(where + "marks()", x.marks(), Oracle.marks(needs));
            default -> total(where, near(6));
        }
    }

    /** Mostly 0 .. below - 1, now and then NONE, one of the edges or far away. */
    private int near(int below) {
        switch (random.nextInt(14)) {
            case 0:
                return Parts.NONE;
            case 1:
                return below;
            case 2:
                return random.nextBoolean() ? random.nextInt() : Parts.FAR[random.nextInt(Parts.FAR.length)];
            default:
                return random.nextInt(below);
        }
    }

    private boolean isValue(int value) {
        return value >= 0 && value < table.length;
    }

    private void begin(String where, int bits) {
        boolean right = bits >= 1 && bits <= 4;
        Check.due(where + "begin(" + bits + ")", x.begin(bits), right);
        if (right) {
            n = bits;
            table = new int[1 << bits];
            for (int v = 0; v < table.length; v++) {
                table[v] = v;
            }
        }
    }

    private void put(String where, int value, int to) {
        boolean right = isValue(value) && isValue(to);
        Check.due(where + "put(" + value + ", " + to + ")", x.put(value, to), right);
        if (right) {
            table[value] = to;
        }
    }

    /** Keeps a permutation one, so that there are gates to ask for. */
    private void swap(String where) {
        if (!Oracle.isPermutation(table)) {
            calls++;
            begin(where, n);
        }
        calls++;
        int v = random.nextInt(table.length);
        int w = random.nextInt(table.length);
        int atV = table[v];
        put(where, v, table[w]);
        put(where, w, atV);
    }

    private void apply(String where, int gate) {
        boolean right = Oracle.isGate(n, gate);
        Check.due(where + "apply(" + gate + ")", x.apply(gate), right);
        for (int v = 0; right && v < table.length; v++) {
            table[v] = Oracle.done(gate, table[v]);
        }
    }

    private void gate(String where, int i) {
        Check.due(where + "gate(" + i + ")", x.gate(i), pick(Oracle.gates(n, table), i));
    }

    private void look(String where, int value) {
        Check.due(where + "look(" + value + ")", x.look(value), isValue(value) ? table[value] : Parts.NONE);
    }

    private void form(String where, int function, int i) {
        int[][] all = Oracle.forms(n);
        boolean there = function >= 0 && function < all.length;
        Check.due(where + "form(" + function + ", " + i + ")", x.form(function, i), pick(there ? all[function] : null, i));
    }

    private void product(String where, int number) {
        boolean there = number >= 0 && number < Oracle.products(n);
        Check.due(where + "product(" + number + ")", x.product(number), there ? Oracle.product(n, number) : Parts.NONE);
    }

    private void program(String where, int m) {
        boolean right = m >= 1 && m <= 12;
        Check.due(where + "program(" + m + ")", x.program(m), right);
        if (right) {
            needs = new int[m];
        }
    }

    private void need(String where, int step, int set) {
        boolean right = step >= 0 && step < needs.length && set >= 0 && set < 1 << step;
        Check.due(where + "need(" + step + ", " + set + ")", x.need(step, set), right);
        if (right) {
            needs[step] = set;
        }
    }

    private void move(String where, int b, int i) {
        Check.due(where + "move(" + b + ", " + i + ")", x.move(b, i), pick(Oracle.moves(needs, b), i));
    }

    private void total(String where, int what) {
        int[] all = {n, needs.length, Oracle.isPermutation(table) ? 1 : 0, n * (1 << (n - 1)), Oracle.products(n)};
        boolean there = what >= 0 && what < all.length;
        Check.due(where + "total(" + what + ")", x.total(what), there ? all[what] : Parts.NONE);
    }

    private static int pick(int[] all, int i) {
        if (all == null) {
            return Parts.NONE;
        }
        if (i == Parts.NONE) {
            return all.length;
        }
        return i >= 0 && i < all.length ? all[i] : Parts.NONE;
    }
}
