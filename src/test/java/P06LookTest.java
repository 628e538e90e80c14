/** Promise 6. */
public final class P06LookTest {
    public static void main(String[] args) {
        for (int n = 1; n <= 4; n++) {
            int size = 1 << n;
            ReversibleParts x = Parts.values(n);
            for (int v = 0; v < size; v++) {
                Check.due("look(" + v + ") at first", x.look(v), v);
                x.put(v, size - 1 - v / 2);
                Check.due("look(" + v + ") behind put", x.look(v), size - 1 - v / 2);
            }
            for (int wrong : new int[] {-1, size, size + 1, 16, 31}) {
                Check.due("look(" + wrong + ") of " + n + " bits", x.look(wrong), Parts.NONE);
            }
            for (int wrong : Parts.FAR) {
                Check.due("look(" + wrong + ") of " + n + " bits", x.look(wrong), Parts.NONE);
            }
        }
        Check.finish();
    }
}
