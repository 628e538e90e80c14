/** Promise 7. */
public final class P07FormTest {
    /** An object is used for 512 calls at most; one form asks for eight. */
    private static final int FORMS_FOR_ONE_OBJECT = 60;

    public static void main(String[] args) {
        byHand();
        for (int n = 1; n <= 4; n++) {
            eachFunction(n);
            wrong(n);
        }
        bitsComeAndGo();
        Check.finish();
    }

    private static void byHand() {
        ReversibleParts x = Parts.values(2);
        Check.due("nothing", Parts.form(x, 0), new int[0]);
        Check.due("always", Parts.form(x, 15), new int[] {0});
        Check.due("one of two", Parts.form(x, 6), new int[] {1, 3});
        Check.due("both or none", Parts.form(x, 9), new int[] {1, 6});
        Check.due("and", Parts.form(x, 8), new int[] {4});
        Check.due("or", Parts.form(x, 14), new int[] {0, 8});
        Check.due("not both", Parts.form(x, 7), new int[] {0, 4});
    }

    private static void eachFunction(int n) {
        int[][] want = Oracle.forms(n);
        ReversibleParts x = null;
        int longest = 0;
        for (int function = 0; function < want.length; function++) {
            if (function % FORMS_FOR_ONE_OBJECT == 0) {
                x = Parts.values(n);
            }
            Check.due("the form of " + function + " of " + n + " bits", Parts.form(x, function), want[function]);
            longest = Math.max(longest, want[function].length);
        }
        Check.due("the longest form of " + n + " bits", longest, new int[] {0, 1, 2, 3, 6}[n]);
    }

    private static void wrong(int n) {
        int functions = 1 << (1 << n);
        ReversibleParts x = Parts.values(n);
        for (int function : new int[] {-1, functions, functions + 1, functions * 2, -functions}) {
            noFunction(x, function);
        }
        for (int function : Parts.FAR) {
            noFunction(x, function);
        }
        for (int i : Parts.FAR) {
            Check.due("form(1, " + i + ")", x.form(1, i), Parts.NONE);
            Check.due("form(0, " + i + ")", x.form(0, i), Parts.NONE);
        }
        Check.due("form(0, 0)", x.form(0, 0), Parts.NONE);
        Check.due("form(1, 1)", x.form(1, 1), Parts.NONE);
    }

    private static void noFunction(ReversibleParts x, int function) {
        for (int i = -2; i < 2; i++) {
            Check.due("form(" + function + ", " + i + ")", x.form(function, i), Parts.NONE);
        }
    }

    private static void bitsComeAndGo() {
        ReversibleParts x = new ReversibleParts();
        for (int n : new int[] {3, 1, 4, 2, 4, 3, 2, 1}) {
            x.begin(n);
            for (int function = 0; function < Math.min(1 << (1 << n), 8); function++) {
                Check.due("the form of " + function + " of " + n + " bits now", Parts.form(x, function), Oracle.forms(n)[function]);
            }
        }
    }
}
