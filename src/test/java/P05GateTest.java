import java.util.Random;

/** Promise 5. */
public final class P05GateTest {
    public static void main(String[] args) {
        byHand();
        eachSmallTable(1);
        eachSmallTable(2);
        Random random = new Random(5);
        for (int run = 0; run < 3000; run++) {
            int n = 3 + random.nextInt(2);
            compare(n, shuffled(n, random));
        }
        noPermutation();
        changesNothing();
        Check.finish();
    }

    private static void byHand() {
        Check.due("both of 1 bit changed", Parts.gates(Parts.table(1, 1, 0)), new int[] {0});
        // row 0: bits 0 and 1 go off, 0 first; then 3 at 3, 2 at 2, 1 at 1 stand
        Check.due("each of 2 bits turned", Parts.gates(Parts.table(2, 3, 2, 1, 0)), new int[] {16, 0});
        // 2 at 1: bit 0 comes on under 2, bit 1 goes off under 1; then 3 at 2 under 2
        Check.due("1 and 2 changed", Parts.gates(Parts.table(2, 0, 2, 1, 3)), new int[] {2, 17, 2});
        Check.due("2 and 3 changed", Parts.gates(Parts.table(2, 0, 1, 3, 2)), new int[] {2});
    }

    private static void eachSmallTable(int n) {
        int size = 1 << n;
        for (int number = 0; number < Math.pow(size, size); number++) {
            int[] table = new int[size];
            int left = number;
            for (int v = 0; v < size; v++) {
                table[v] = left % size;
                left /= size;
            }
            compare(n, table);
        }
    }

    private static void compare(int n, int[] table) {
        int[] want = Oracle.gates(n, table);
        int[] got = Parts.gates(Parts.table(n, table));
        Check.due("the gates of a table of " + n + " bits", got, want);
        if (got != null) {
            ReversibleParts fromFirst = Parts.values(n);
            for (int gate : got) {
                Check.due("apply(" + gate + ")", fromFirst.apply(gate), true);
            }
            Check.due("what the gates make of each value", Parts.table(fromFirst), table);
        }
    }

    private static int[] shuffled(int n, Random random) {
        int[] table = new int[1 << n];
        for (int v = 0; v < table.length; v++) {
            int other = random.nextInt(v + 1);
            table[v] = table[other];
            table[other] = v;
        }
        return table;
    }

    private static void noPermutation() {
        ReversibleParts x = Parts.table(3, 7, 0, 1, 2, 3, 4, 5, 5);
        for (int i = -2; i < 10; i++) {
            Check.due("gate(" + i + ") of no permutation", x.gate(i), Parts.NONE);
        }
        x.put(7, 6);
        Check.due("gate(NONE) of a permutation again", x.gate(Parts.NONE), 7);
        for (int far : Parts.FAR) {
            Check.due("gate(" + far + ")", x.gate(far), Parts.NONE);
        }
        Check.due("gate(7)", x.gate(7), Parts.NONE);
    }

    private static void changesNothing() {
        int[] table = {3, 8, 2, 15, 0, 1, 7, 6, 5, 4, 14, 13, 12, 11, 10, 9};
        ReversibleParts x = Parts.table(4, table);
        int[] first = Parts.gates(x);
        Check.due("how many gates", first.length, 28);
        Check.due("the gates a second time", Parts.gates(x), first);
        Check.due("the table behind gate", Parts.table(x), table);
    }
}
