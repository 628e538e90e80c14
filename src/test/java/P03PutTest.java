/** Promise 3. */
public final class P03PutTest {
    public static void main(String[] args) {
        for (int n = 1; n <= 4; n++) {
            eachValue(n);
            wrongChangesNothing(n);
        }
        permutationComesAndGoes();
        Check.finish();
    }

    private static void eachValue(int n) {
        int size = 1 << n;
        for (int value = 0; value < size; value++) {
            for (int to = 0; to < size; to++) {
                ReversibleParts x = Parts.values(n);
                Check.due("put(" + value + ", " + to + ")", x.put(value, to), true);
                for (int v = 0; v < size; v++) {
                    Check.due("look(" + v + ")", x.look(v), v == value ? to : v);
                }
                Check.due("total(2)", x.total(2), value == to ? 1 : 0);
            }
        }
    }

    private static void wrongChangesNothing(int n) {
        int size = 1 << n;
        ReversibleParts x = Parts.values(n);
        x.put(0, 1);
        int[] before = Parts.table(x);
        for (int wrong : new int[] {-1, size, size + 1, 16, 32}) {
            refused(x, wrong, before);
        }
        for (int wrong : Parts.FAR) {
            refused(x, wrong, before);
        }
        x.begin(4);
        for (int v = 0; v < 16; v++) {
            Check.due("look(" + v + ") behind begin(4)", x.look(v), v);
        }
    }

    private static void refused(ReversibleParts x, int wrong, int[] before) {
        Check.due("put(" + wrong + ", 0)", x.put(wrong, 0), false);
        Check.due("put(1, " + wrong + ")", x.put(1, wrong), false);
        Check.due("put(" + wrong + ", " + wrong + ")", x.put(wrong, wrong), false);
        Check.due("the table behind put with " + wrong, Parts.table(x), before);
    }

    private static void permutationComesAndGoes() {
        ReversibleParts x = Parts.values(2);
        x.put(3, 0);
        Check.due("total(2) with 0 twice", x.total(2), 0);
        x.put(0, 3);
        Check.due("total(2) with 0 and 3 changed", x.total(2), 1);
        x.put(0, 3);
        Check.due("total(2) with the same again", x.total(2), 1);
    }
}
