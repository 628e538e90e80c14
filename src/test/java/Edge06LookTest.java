/** The boundary cases of promise 6, sentence by sentence. */
public final class Edge06LookTest {
    public static void main(String[] args) {
        whatTheTableHas();
        noneSuch();
        Check.finish();
    }

    private static void whatTheTableHas() {
        Check.sentence("What THE TABLE has for a VALUE");
        for (int n = 1; n <= 4; n++) {
            int last = (1 << n) - 1;
            ReversibleParts x = Parts.table(n, Parts.turned(n));
            Check.due("look(0)", x.look(0), 1);
            Check.due("look(" + (last - 1) + ")", x.look(last - 1), last);
            Check.due("look(" + last + ")", x.look(last), 0);
        }
    }

    private static void noneSuch() {
        Check.sentence("NONE if there is none such");
        for (int n = 1; n <= 4; n++) {
            int size = 1 << n;
            ReversibleParts x = Parts.table(n, Parts.turned(n));
            int[] before = State.of(x);
            for (int wrong : new int[] {-1, -2, -size, size, size + 1, 2 * size, 16, 17, 256, 65536, Integer.MIN_VALUE,
                    Integer.MIN_VALUE + 1, Integer.MAX_VALUE, Integer.MAX_VALUE - 1}) {
                Check.due("look(" + wrong + ") of " + n + " bits", x.look(wrong), Parts.NONE);
            }
            Check.due("the answers behind", State.of(x), before);
        }
        ReversibleParts fewer = Parts.table(4, Parts.turned(4));
        fewer.begin(1);
        for (int v = 2; v <= 16; v++) {
            Check.due("look(" + v + ") of 1 bit behind 4", fewer.look(v), Parts.NONE);
        }
    }
}
