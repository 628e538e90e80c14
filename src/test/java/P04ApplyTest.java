import java.util.Random;

/** Promise 4. */
public final class P04ApplyTest {
    public static void main(String[] args) {
        for (int n = 1; n <= 4; n++) {
            eachNumber(n);
            wrongChangesNothing(n);
            takesItselfBack(n);
        }
        toAnyTable();
        Check.finish();
    }

    private static void eachNumber(int n) {
        int there = 0;
        for (int gate = -20; gate < 100; gate++) {
            ReversibleParts x = Parts.values(n);
            boolean is = Oracle.isGate(n, gate);
            there += is ? 1 : 0;
            Check.due("apply(" + gate + ") of " + n + " bits", x.apply(gate), is);
            for (int v = 0; v < 1 << n; v++) {
                Check.due("look(" + v + ") behind apply(" + gate + ")", x.look(v), is ? Oracle.done(gate, v) : v);
            }
        }
        Check.due("total(3)", Parts.values(n).total(3), there);
    }

    private static void wrongChangesNothing(int n) {
        ReversibleParts x = Parts.values(n);
        for (int wrong : Parts.FAR) {
            Check.due("apply(" + wrong + ")", x.apply(wrong), false);
            Check.due("gate(NONE) behind apply(" + wrong + ")", x.gate(Parts.NONE), 0);
        }
    }

    private static void takesItselfBack(int n) {
        ReversibleParts x = Parts.values(n);
        for (int gate = 0; gate < 64; gate++) {
            if (x.apply(gate)) {
                Check.due("total(2) behind apply(" + gate + ")", x.total(2), 1);
                Check.due("apply(" + gate + ") again", x.apply(gate), true);
                Check.due("gate(NONE) behind both", x.gate(Parts.NONE), 0);
            }
        }
    }

    private static void toAnyTable() {
        Random random = new Random(4);
        for (int run = 0; run < 200; run++) {
            int n = 1 + random.nextInt(4);
            int[] table = new int[1 << n];
            for (int v = 0; v < table.length; v++) {
                table[v] = random.nextInt(table.length);
            }
            ReversibleParts x = Parts.table(n, table);
            for (int step = 0; step < 20; step++) {
                int gate = random.nextInt(16 * n);
                if (x.apply(gate)) {
                    for (int v = 0; v < table.length; v++) {
                        table[v] = Oracle.done(gate, table[v]);
                    }
                }
                Check.due("the table behind apply(" + gate + ")", Parts.table(x), table);
            }
        }
    }
}
