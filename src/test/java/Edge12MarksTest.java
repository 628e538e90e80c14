/** The boundary cases of promise 12, sentence by sentence. */
public final class Edge12MarksTest {
    public static void main(String[] args) {
        leastNumber();
        Check.finish();
    }

    private static void leastNumber() {
        Check.sentence("The least b for which there are THE MOVES.");
        for (int m = 1; m <= 12; m++) {
            least(new int[m], 1);
            least(Parts.allAhead(m), m);
            // the last step needs some, which need nothing: each number from the least to the greatest
            for (int needed = 0; needed < m; needed++) {
                int[] needs = new int[m];
                needs[m - 1] = (1 << needed) - 1;
                least(needs, needed + 1);
                needs[m - 1] <<= m - 1 - needed;
                least(needs, needed + 1);
            }
        }
        // more than any one step asks for: a step and what it needs are two
        int[] chains = {0, 1, 2, 3, 3, 4, 4, 4, 4, 5, 5, 5, 5};
        for (int m = 1; m <= 12; m++) {
            least(Parts.chain(m), chains[m]);
        }
        // what the last step does not need, itself or by way of others, does not count
        int[] aside = Parts.allAhead(12);
        aside[11] = 0;
        least(aside, 1);
        aside[11] = 1;
        least(aside, 2);
    }

    private static void least(int[] needs, int want) {
        ReversibleParts x = Parts.program(needs);
        int[] before = State.of(x);
        Check.due("marks() of " + needs.length + " steps", x.marks(), want);
        Check.due("moves for it", x.move(want, Parts.NONE) >= 1, true);
        Check.due("moves for one less", x.move(want - 1, Parts.NONE), Parts.NONE);
        Check.due("the answers behind", State.of(x), before);
        ReversibleParts asked = Parts.program(needs);
        Check.due("marks() asked first", asked.marks(), want);
        Check.due("marks() asked again", asked.marks(), want);
    }
}
