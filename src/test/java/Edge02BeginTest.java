/** The boundary cases of promise 2, sentence by sentence. */
public final class Edge02BeginTest {
    public static void main(String[] args) {
        asAtFirst();
        anotherNumber();
        Check.finish();
    }

    private static void asAtFirst() {
        Check.sentence("VALUES of n bits, THE TABLE as at first: true");
        for (int from = 1; from <= 4; from++) {
            for (int n = 1; n <= 4; n++) {
                ReversibleParts x = Parts.table(from, Parts.turned(from));
                Check.due("begin(" + n + ")", x.begin(n), true);
                Check.due("all as with a new object", State.of(x), State.of(Parts.values(n)));
                x.begin(4);
                Check.due("the last of 4 bits, behind fewer", x.look(15), 15);
                Check.due("no gates of 4 bits, behind fewer", x.gate(Parts.NONE), 0);
            }
        }
    }

    private static void anotherNumber() {
        Check.sentence("false, changing nothing, for another n");
        for (int n = 1; n <= 4; n++) {
            for (int other : new int[] {0, 5, -1, -4, 8, 16, 33, 36, 257, 65537, 1 << 30, Integer.MIN_VALUE,
                    Integer.MIN_VALUE + 1, Integer.MIN_VALUE + 4, Integer.MAX_VALUE, Integer.MAX_VALUE - 1}) {
                Refusal.due("begin(" + other + ")", n, 3 * n, x -> x.begin(other));
            }
        }
    }
}
