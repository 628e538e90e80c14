/** Promise 2. */
public final class P02BeginTest {
    public static void main(String[] args) {
        for (int n = 1; n <= 4; n++) {
            tableAsAtFirst(n);
            wrongChangesNothing(n);
        }
        programStays();
        Check.finish();
    }

    private static void tableAsAtFirst(int n) {
        ReversibleParts x = Parts.table(4, 9, 9, 9, 9, 9, 9, 9, 9, 9, 9, 9, 9, 9, 9, 9, 9);
        for (int round = 0; round < 2; round++) {
            Check.due("begin(" + n + ")", x.begin(n), true);
            Check.due("total(0)", x.total(0), n);
            for (int v = 0; v < 1 << n; v++) {
                Check.due("look(" + v + ")", x.look(v), v);
            }
            Check.due("look behind the last", x.look(1 << n), Parts.NONE);
            Check.due("gate(NONE)", x.gate(Parts.NONE), 0);
            x.put(0, 1);
        }
        x.begin(4);
        for (int v = 0; v < 16; v++) {
            Check.due("look(" + v + ") of 4 bits", x.look(v), v);
        }
    }

    private static void wrongChangesNothing(int n) {
        ReversibleParts x = Parts.values(n);
        x.put(0, 1);
        x.put(1, 0);
        int[] before = Parts.table(x);
        for (int wrong : new int[] {0, -1, 5, 6, 8, 16, 33, 36}) {
            refused(x, wrong, n, before);
        }
        for (int wrong : Parts.FAR) {
            refused(x, wrong, n, before);
        }
    }

    private static void refused(ReversibleParts x, int wrong, int n, int[] before) {
        Check.due("begin(" + wrong + ")", x.begin(wrong), false);
        Check.due("total(0) behind begin(" + wrong + ")", x.total(0), n);
        Check.due("the table behind begin(" + wrong + ")", Parts.table(x), before);
    }

    private static void programStays() {
        ReversibleParts x = Parts.program(Parts.chain(5));
        x.begin(3);
        Check.due("total(1) behind begin", x.total(1), 5);
        Check.due("marks() behind begin", x.marks(), 4);
    }
}
