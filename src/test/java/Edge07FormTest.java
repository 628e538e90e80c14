/** The boundary cases of promise 7, sentence by sentence. */
public final class Edge07FormTest {
    /** Of each number of bits the first FUNCTION with the most PRODUCTS. */
    private static int[] longest(int n) {
        int[] most = new int[0];
        int function = 0;
        int[][] forms = Oracle.forms(n);
        for (int f = 0; f < forms.length; f++) {
            if (forms[f].length > most.length) {
                most = forms[f];
                function = f;
            }
        }
        return new int[] {function, most.length};
    }

    public static void main(String[] args) {
        howMany();
        noSuchFunction();
        noSuchProduct();
        Check.finish();
    }

    private static void howMany() {
        Check.sentence("Of THE FORM of a FUNCTION (its 2^n bits as a number), i NONE: how many PRODUCTS, else the i-th one's number.");
        for (int n = 1; n <= 4; n++) {
            int greatest = (1 << (1 << n)) - 1;
            ReversibleParts x = Parts.values(n);
            Check.due("of the least, which is nowhere 1", Parts.form(x, 0), new int[0]);
            Check.due("of the greatest, which is 1 everywhere", Parts.form(x, greatest), new int[] {0});
            // all but 0; of 1 bit that is the bit itself
            int[] allButZero = n == 1 ? new int[] {1} : new int[] {0, Oracle.products(n) - 1};
            Check.due("of the one ahead of it", Parts.form(x, greatest - 1), allButZero);
            int[] most = longest(n);
            Check.due("of the first with the most", Parts.form(x, most[0]), Oracle.forms(n)[most[0]]);
            Check.due("the first one", x.form(most[0], 0), Oracle.forms(n)[most[0]][0]);
            Check.due("the last one", x.form(most[0], most[1] - 1), Oracle.forms(n)[most[0]][most[1] - 1]);
        }
        eachBehindEachOther();
    }

    /** The same object, with more bits and with fewer bits behind each number of bits. */
    private static void eachBehindEachOther() {
        for (int first = 1; first <= 4; first++) {
            for (int second = 1; second <= 4; second++) {
                ReversibleParts x = new ReversibleParts();
                for (int n : new int[] {first, second}) {
                    x.begin(n);
                    int most = longest(n)[0];
                    Check.due("of " + n + " bits, of " + first + " and then " + second, Parts.form(x, most), Oracle.forms(n)[most]);
                }
            }
        }
    }

    private static void noSuchFunction() {
        Check.sentence("NONE if there is no such FUNCTION");
        for (int n = 1; n <= 4; n++) {
            int all = 1 << (1 << n);
            ReversibleParts x = Parts.table(n, Parts.turned(n));
            int[] before = State.of(x);
            for (int function : new int[] {-1, -2, -all, 1 - all, all, all + 1, 2 * all, 1 << 16, 1 << 17, 1 << 30, Integer.MIN_VALUE,
                    Integer.MIN_VALUE + 1, Integer.MAX_VALUE}) {
                for (int i : new int[] {Parts.NONE, 0, 1, -2, Integer.MIN_VALUE, Integer.MAX_VALUE}) {
                    Check.due("form(" + function + ", " + i + ") of " + n + " bits", x.form(function, i), Parts.NONE);
                }
            }
            Check.due("the answers behind", State.of(x), before);
        }
        ReversibleParts fewer = Parts.values(4);
        Check.due("form(256, NONE) of 4 bits", fewer.form(256, Parts.NONE), 1);
        fewer.begin(3);
        Check.due("form(256, NONE) of 3 bits", fewer.form(256, Parts.NONE), Parts.NONE);
        Check.due("form(255, NONE) of 3 bits", fewer.form(255, Parts.NONE), 1);
        fewer.begin(2);
        Check.due("form(16, NONE) of 2 bits", fewer.form(16, Parts.NONE), Parts.NONE);
        Check.due("form(15, NONE) of 2 bits", fewer.form(15, Parts.NONE), 1);
    }

    private static void noSuchProduct() {
        Check.sentence("NONE if there is no such FUNCTION, PRODUCT.");
        for (int n = 1; n <= 4; n++) {
            int[] most = longest(n);
            asked(n, 0, 0);
            asked(n, 1, 1);
            asked(n, (1 << (1 << n)) - 1, 1);
            asked(n, most[0], most[1]);
        }
        Check.due("the most of 4 bits", longest(4)[1], 6);
    }

    private static void asked(int n, int function, int count) {
        ReversibleParts x = Parts.values(n);
        Check.due("form(" + function + ", NONE) of " + n + " bits", x.form(function, Parts.NONE), count);
        if (count > 0) {
            Check.due("there is a last one", x.form(function, count - 1) >= 0, true);
        }
        for (int i : new int[] {count, count + 1, 6, 7, 8, 9, 10, 32, 64, 256, -2, -3, -64, Integer.MIN_VALUE, Integer.MIN_VALUE + 1,
                Integer.MAX_VALUE, Integer.MAX_VALUE - 1}) {
            Check.due("form(" + function + ", " + i + ") of " + n + " bits", x.form(function, i), Parts.NONE);
        }
        Check.due("form(" + function + ", NONE) behind", x.form(function, Parts.NONE), count);
    }
}
