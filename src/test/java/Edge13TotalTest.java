/** The boundary cases of promise 13, sentence by sentence. */
public final class Edge13TotalTest {
    public static void main(String[] args) {
        whatIsAsked();
        anotherWhat();
        Check.finish();
    }

    private static void whatIsAsked() {
        Check.sentence("What 0: n, 1: m, 2: 1 if THE TABLE is a PERMUTATION, else 0, 3: how many GATES there are for n bits, 4: PRODUCTS.");
        int[] gates = {0, 1, 4, 12, 32};
        int[] products = {1, 3, 9, 27, 81};
        for (int n = 1; n <= 4; n++) {
            for (int m : new int[] {1, 2, 11, 12}) {
                ReversibleParts x = Parts.table(n, Parts.turned(n));
                x.program(m);
                Check.due("total(0)", x.total(0), n);
                Check.due("total(1)", x.total(1), m);
                Check.due("total(2) of a permutation", x.total(2), 1);
                Check.due("total(3)", x.total(3), gates[n]);
                Check.due("total(4)", x.total(4), products[n]);
                x.put(0, x.look((1 << n) - 1));
                Check.due("total(2) with the first and the last alike", x.total(2), 0);
                Check.due("total(3) still", x.total(3), gates[n]);
                Check.due("total(4) still", x.total(4), products[n]);
            }
            countedOneByOne(n, gates[n], products[n]);
        }
    }

    private static void countedOneByOne(int n, int gates, int products) {
        ReversibleParts x = Parts.values(n);
        int applied = 0;
        for (int gate = -1; gate < 80; gate++) {
            applied += x.apply(gate) ? 1 : 0;
        }
        Check.due("how many gates of " + n + " bits are done", applied, gates);
        int told = 0;
        for (int number = -1; number < 100; number++) {
            told += x.product(number) == Parts.NONE ? 0 : 1;
        }
        Check.due("how many products of " + n + " bits are told", told, products);
    }

    private static void anotherWhat() {
        Check.sentence("NONE for another what.");
        for (int n = 1; n <= 4; n++) {
            ReversibleParts x = Parts.programOf(Parts.table(n, Parts.turned(n)), Parts.chain(3 * n));
            int[] before = State.of(x);
            Check.due("total(0), the first that there is", x.total(0), n);
            Check.due("total(4), the last that there is", x.total(4) > 0, true);
            for (int what : new int[] {-1, -2, -4, 5, 6, 8, 32, 36, 256, 260, 65536, 1 << 30, Integer.MIN_VALUE, Integer.MIN_VALUE + 1,
                    Integer.MIN_VALUE + 4, Integer.MAX_VALUE, Integer.MAX_VALUE - 1}) {
                Check.due("total(" + what + ")", x.total(what), Parts.NONE);
            }
            Check.due("the answers behind", State.of(x), before);
        }
    }
}
