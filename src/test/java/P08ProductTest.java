/** Promise 8. */
public final class P08ProductTest {
    public static void main(String[] args) {
        byHand();
        for (int n = 1; n <= 4; n++) {
            ReversibleParts x = Parts.values(n);
            for (int number = 0; number < Oracle.products(n); number++) {
                int function = Oracle.product(n, number);
                Check.due("product(" + number + ") of " + n + " bits", x.product(number), function);
                Check.due("the form of product " + number, Parts.form(Parts.values(n), function), new int[] {number});
            }
            wrong(x, Oracle.products(n));
        }
        Check.finish();
    }

    private static void byHand() {
        ReversibleParts x = Parts.values(4);
        Check.due("product(0)", x.product(0), 65535);
        Check.due("product(1): bit 0", x.product(1), 0xAAAA);
        Check.due("product(2): not bit 0", x.product(2), 0x5555);
        Check.due("product(27): bit 3", x.product(27), 0xFF00);
        Check.due("product(40): all", x.product(40), 0x8000);
        Check.due("product(80): none", x.product(80), 1);
    }

    private static void wrong(ReversibleParts x, int count) {
        for (int number : new int[] {-1, count, count + 1, 81, 242, 243}) {
            Check.due("product(" + number + ")", x.product(number), Parts.NONE);
        }
        for (int number : Parts.FAR) {
            Check.due("product(" + number + ")", x.product(number), Parts.NONE);
        }
    }
}
