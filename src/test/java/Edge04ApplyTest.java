/** The boundary cases of promise 4, sentence by sentence. */
public final class Edge04ApplyTest {
    public static void main(String[] args) {
        doneToAll();
        noneSuch();
        Check.finish();
    }

    private static void doneToAll() {
        Check.sentence("The GATE with a number is done to all VALUES of THE TABLE: true");
        int[] greatest = {0, 0, 17, 35, 55};
        for (int n = 1; n <= 4; n++) {
            int size = 1 << n;
            for (int gate : new int[] {0, greatest[n]}) {
                int[] want = Parts.turned(n);
                ReversibleParts x = Parts.table(n, want);
                for (int v = 0; v < size; v++) {
                    want[v] = Oracle.done(gate, want[v]);
                }
                Check.due("apply(" + gate + ")", x.apply(gate), true);
                Check.due("the table behind", Parts.table(x), want);
            }
            // all alike, and no permutation: the gate is done to each of them
            ReversibleParts x = Parts.table(n, new int[size]);
            Check.due("apply(0) where all have 0", x.apply(0), true);
            for (int v = 0; v < size; v++) {
                Check.due("look(" + v + ")", x.look(v), 1);
            }
        }
        // to what the table has, not to where it stands
        ReversibleParts x = Parts.table(2, 3, 0, 1, 2);
        Check.due("apply(2)", x.apply(2), true);
        Check.due("the table behind apply(2)", Parts.table(x), new int[] {2, 0, 1, 3});
    }

    private static void noneSuch() {
        Check.sentence("false, changing nothing, if there is none such");
        for (int n = 1; n <= 4; n++) {
            int good = 0;
            for (int gate = -70; gate < 140; gate++) {
                if (Oracle.isGate(n, gate)) {
                    good++;
                } else {
                    refused(n, gate);
                }
            }
            Check.due("how many are there", good, Parts.values(n).total(3));
            // numbers that are a gate's in their last bits, or whose bit wraps around when it is shifted
            for (int gate : new int[] {256, 512, 16 * 32, 16 * 33, 4096, 65536, 1 << 30, 1 << 28, Integer.MIN_VALUE,
                    Integer.MIN_VALUE + 1, Integer.MIN_VALUE + 16, Integer.MIN_VALUE + 32, Integer.MAX_VALUE, Integer.MAX_VALUE - 15}) {
                refused(n, gate);
            }
        }
    }

    private static void refused(int n, int gate) {
        Refusal.due("apply(" + gate + ")", n, 2, x -> x.apply(gate));
    }
}
