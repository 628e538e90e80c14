/** The boundary cases of promise 3, sentence by sentence. */
public final class Edge03PutTest {
    public static void main(String[] args) {
        whatTheTableHas();
        noSuchValues();
        Check.finish();
    }

    private static void whatTheTableHas() {
        Check.sentence("What THE TABLE has for a VALUE: true");
        for (int n = 1; n <= 4; n++) {
            int last = (1 << n) - 1;
            for (int value : new int[] {0, last}) {
                for (int to : new int[] {0, last}) {
                    int[] want = Parts.turned(n);
                    ReversibleParts x = Parts.table(n, want);
                    want[value] = to;
                    Check.due("put(" + value + ", " + to + ") of " + n + " bits", x.put(value, to), true);
                    Check.due("the table behind", Parts.table(x), want);
                    Check.due("the same once more", x.put(value, to), true);
                    Check.due("the table behind both", Parts.table(x), want);
                }
            }
        }
    }

    private static void noSuchValues() {
        Check.sentence("false, changing nothing, if there are no such VALUES");
        for (int n = 1; n <= 4; n++) {
            int last = (1 << n) - 1;
            int[] wrong = {-1, last + 1, -last - 1, 16, 256, 65536, Integer.MIN_VALUE, Integer.MIN_VALUE + last, Integer.MAX_VALUE};
            for (int other : wrong) {
                for (int good : new int[] {0, last}) {
                    refused(n, other, good);
                    refused(n, good, other);
                }
                refused(n, other, other);
            }
            refused(n, -1, last + 1);
            refused(n, Integer.MIN_VALUE, Integer.MAX_VALUE);
            refused(n, Integer.MAX_VALUE, Integer.MIN_VALUE);
        }
    }

    private static void refused(int n, int value, int to) {
        Refusal.due("put(" + value + ", " + to + ")", n, 3, x -> x.put(value, to));
    }
}
