/** The boundary cases of promise 5, sentence by sentence. */
public final class Edge05GateTest {
    private static final int[] MOST = {0, 1, 5, 17, 49};

    public static void main(String[] args) {
        howMany();
        noneSuch();
        noPermutation();
        Check.finish();
    }

    private static void howMany() {
        Check.sentence("Of THE GATES, i NONE: how many, else the i-th one's number.");
        for (int n = 1; n <= 4; n++) {
            Check.due("the fewest", Parts.values(n).gate(Parts.NONE), 0);
            int[] table = asFarAsCanBe(n);
            int[] want = Oracle.gates(n, table);
            ReversibleParts x = Parts.table(n, table);
            Check.due("the most of " + n + " bits", x.gate(Parts.NONE), MOST[n]);
            Check.due("the first one", x.gate(0), want[0]);
            Check.due("the last one", x.gate(MOST[n] - 1), want[MOST[n] - 1]);
            Check.due("all", Parts.gates(x), want);
        }
    }

    /**
     * Each row's gates depend on what is at v then alone, which is v or greater: so the greatest
     * number is met by taking back, the last row first, the gates of what is farthest from v.
     */
    private static int[] asFarAsCanBe(int n) {
        int size = 1 << n;
        int[] table = new int[size];
        for (int v = 0; v < size; v++) {
            table[v] = v;
        }
        for (int v = size - 1; v >= 0; v--) {
            int farthest = v;
            for (int t = v; t < size; t++) {
                if (Integer.bitCount(v ^ t) > Integer.bitCount(v ^ farthest)) {
                    farthest = t;
                }
            }
            takeRowBack(n, table, v, farthest);
        }
        return table;
    }

    private static void takeRowBack(int n, int[] table, int v, int t) {
        int now = v;
        for (int a = n - 1; a >= 0; a--) {
            if ((t & ~v & 1 << a) != 0) {
                doToAll(table, 16 * a + v);
                now ^= 1 << a;
            }
        }
        for (int a = n - 1; a >= 0; a--) {
            if ((v & ~t & 1 << a) != 0) {
                now ^= 1 << a;
                doToAll(table, 16 * a + now);
            }
        }
    }

    private static void doToAll(int[] table, int gate) {
        for (int v = 0; v < table.length; v++) {
            table[v] = Oracle.done(gate, table[v]);
        }
    }

    private static void noneSuch() {
        Check.sentence("NONE if there is none such");
        for (int n = 1; n <= 4; n++) {
            asked(Parts.values(n), 0);
            asked(Parts.table(n, asFarAsCanBe(n)), MOST[n]);
            int[] swapped = Parts.turned(n);
            asked(Parts.table(n, swapped), Oracle.gates(n, swapped).length);
        }
    }

    private static void asked(ReversibleParts x, int count) {
        int[] before = State.of(x);
        Check.due("gate(NONE)", x.gate(Parts.NONE), count);
        for (int i : new int[] {count, count + 1, 64, 65, 256, -2, -3, -count - 2, Integer.MIN_VALUE, Integer.MIN_VALUE + 1,
                Integer.MAX_VALUE, Integer.MAX_VALUE - 1}) {
            Check.due("gate(" + i + ") of " + count, x.gate(i), Parts.NONE);
        }
        Check.due("gate(last), or how many if there is none", x.gate(count - 1) >= 0, true);
        Check.due("the answers behind", State.of(x), before);
    }

    private static void noPermutation() {
        Check.sentence("or THE TABLE is no PERMUTATION");
        for (int n = 1; n <= 4; n++) {
            int size = 1 << n;
            int[] table = Parts.turned(n);
            int[] want = Oracle.gates(n, table);
            for (int v = 0; v < size; v++) {
                int w = (v + 1) % size;
                ReversibleParts x = Parts.table(n, table);
                x.gate(0);
                x.put(v, table[w]);
                for (int i : new int[] {-1, 0, 1, want.length - 1, want.length, -2, Integer.MIN_VALUE, Integer.MAX_VALUE}) {
                    Check.due("gate(" + i + ") with " + v + " and " + w + " alike", x.gate(i), Parts.NONE);
                }
                x.put(v, table[v]);
                Check.due("the gates of a permutation again", Parts.gates(x), want);
            }
            ReversibleParts x = Parts.table(n, new int[size]);
            Check.due("gate(NONE) with all alike", x.gate(Parts.NONE), Parts.NONE);
            Check.due("gate(0) with all alike", x.gate(0), Parts.NONE);
        }
    }
}
