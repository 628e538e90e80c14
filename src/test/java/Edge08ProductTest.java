/** The boundary cases of promise 8, sentence by sentence. */
public final class Edge08ProductTest {
    private static final int[] COUNT = {1, 3, 9, 27, 81};

    public static void main(String[] args) {
        theFunction();
        noneSuch();
        Check.finish();
    }

    private static void theFunction() {
        Check.sentence("The FUNCTION that a PRODUCT is");
        for (int n = 1; n <= 4; n++) {
            int size = 1 << n;
            ReversibleParts x = Parts.values(n);
            Check.due("the least: 1 everywhere", x.product(0), (1 << size) - 1);
            Check.due("the greatest: 1 for 0 alone", x.product(COUNT[n] - 1), 1);
            Check.due("the one ahead of it: 1 for 1 alone", x.product(COUNT[n] - 2), 2);
        }
    }

    private static void noneSuch() {
        Check.sentence("NONE if there is none such");
        for (int n = 1; n <= 4; n++) {
            ReversibleParts x = Parts.table(n, Parts.turned(n));
            int[] before = State.of(x);
            for (int number : new int[] {-1, -2, -COUNT[n], COUNT[n], COUNT[n] + 1, 2 * COUNT[n], 3 * COUNT[n], 81, 82, 243, 256, 65536,
                    Integer.MIN_VALUE, Integer.MIN_VALUE + 1, Integer.MAX_VALUE, Integer.MAX_VALUE - 1}) {
                Check.due("product(" + number + ") of " + n + " bits", x.product(number), Parts.NONE);
            }
            Check.due("the answers behind", State.of(x), before);
        }
        ReversibleParts fewer = Parts.values(4);
        Check.due("product(27) of 4 bits", fewer.product(27), 0xFF00);
        fewer.begin(3);
        Check.due("product(27) of 3 bits", fewer.product(27), Parts.NONE);
        Check.due("product(26) of 3 bits", fewer.product(26), 1);
    }
}
