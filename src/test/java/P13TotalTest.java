/** Promise 13. */
public final class P13TotalTest {
    public static void main(String[] args) {
        int[] gates = {0, 1, 4, 12, 32};
        int[] products = {1, 3, 9, 27, 81};
        ReversibleParts x = new ReversibleParts();
        for (int n = 1; n <= 4; n++) {
            x.begin(n);
            x.program(3 * n);
            Check.due("total(0)", x.total(0), n);
            Check.due("total(1)", x.total(1), 3 * n);
            Check.due("total(2)", x.total(2), 1);
            Check.due("total(3)", x.total(3), gates[n]);
            Check.due("total(4)", x.total(4), products[n]);
            x.put(0, 1);
            Check.due("total(2) with 1 twice", x.total(2), 0);
            x.put(1, 0);
            Check.due("total(2) with 0 and 1 changed", x.total(2), 1);
            for (int wrong : new int[] {-1, 5, 6, 32}) {
                Check.due("total(" + wrong + ")", x.total(wrong), Parts.NONE);
            }
            for (int wrong : Parts.FAR) {
                Check.due("total(" + wrong + ")", x.total(wrong), Parts.NONE);
            }
        }
        Check.finish();
    }
}
