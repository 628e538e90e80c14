/** The boundary cases of promise 11, sentence by sentence. */
public final class Edge11MoveTest {
    public static void main(String[] args) {
        howMany();
        noSuchMove();
        zeroOrLess();
        tooFew();
        moreThanEnough();
        Check.finish();
    }

    private static void howMany() {
        Check.sentence("Of THE MOVES for b, i NONE: how many, else the i-th one.");
        for (int m = 1; m <= 12; m++) {
            ReversibleParts none = Parts.program(new int[m]);
            Check.due("how many where nothing is needed", none.move(1, Parts.NONE), 1);
            Check.due("the only one", none.move(1, 0), m - 1);
            ReversibleParts all = Parts.program(Parts.allAhead(m));
            Check.due("how many where all ahead is needed", all.move(m, Parts.NONE), 2 * m - 1);
            Check.due("the first one", all.move(m, 0), 0);
            Check.due("the one in the middle", all.move(m, m - 1), m - 1);
            Check.due("the last one", all.move(m, 2 * m - 2), 0);
        }
    }

    private static void noSuchMove() {
        Check.sentence("NONE if there are none such");
        for (int m = 1; m <= 12; m++) {
            ReversibleParts x = Parts.program(Parts.allAhead(m));
            int count = 2 * m - 1;
            int[] before = State.of(x);
            for (int i : new int[] {count, count + 1, 64, 4096, -2, -3, -count, Integer.MIN_VALUE, Integer.MIN_VALUE + 1, Integer.MAX_VALUE,
                    Integer.MAX_VALUE - 1}) {
                // of one move, -count is NONE itself: it asks how many
                int want = i == Parts.NONE ? count : Parts.NONE;
                Check.due("move(" + m + ", " + i + ") of " + count, x.move(m, i), want);
            }
            Check.due("the answers behind", State.of(x), before);
        }
    }

    private static void zeroOrLess() {
        Check.sentence("b is 0 or less");
        for (int m = 1; m <= 12; m++) {
            ReversibleParts x = Parts.program(new int[m]);
            Check.due("one is enough where nothing is needed", x.move(1, Parts.NONE), 1);
            for (int b : new int[] {0, -1, -2, -m, -12, -13, -32, -65536, Integer.MIN_VALUE, Integer.MIN_VALUE + 1, Integer.MIN_VALUE + m}) {
                noneFor(x, b);
            }
            Check.due("one is still enough", x.move(1, 0), m - 1);
        }
    }

    private static void tooFew() {
        Check.sentence("or too few");
        int[] enoughForChain = {0, 1, 2, 3, 3, 4, 4, 4, 4, 5, 5, 5, 5};
        for (int m = 1; m <= 12; m++) {
            edge(Parts.chain(m), enoughForChain[m]);
            edge(Parts.allAhead(m), m);
            edge(new int[m], 1);
        }
    }

    private static void edge(int[] needs, int enough) {
        ReversibleParts x = Parts.program(needs);
        noneFor(x, enough - 1);
        Check.due("there are moves for " + enough, x.move(enough, Parts.NONE) > 0, true);
        Check.due("and a first one", x.move(enough, 0) >= 0, true);
        for (int b = enough - 1; b >= 0; b--) {
            noneFor(x, b);
        }
    }

    private static void noneFor(ReversibleParts x, int b) {
        for (int i : new int[] {Parts.NONE, 0, 1, -2, Integer.MIN_VALUE, Integer.MAX_VALUE}) {
            Check.due("move(" + b + ", " + i + ")", x.move(b, i), Parts.NONE);
        }
    }

    private static void moreThanEnough() {
        Check.sentence("THE MOVES for b: the fewest, with at most b MARKS at all times");
        for (int m = 1; m <= 12; m++) {
            int[] want = new int[2 * m - 1];
            for (int i = 0; i < want.length; i++) {
                want[i] = Math.min(i, 2 * m - 2 - i);
            }
            for (int b : new int[] {m, m + 1, 12, 13, 32, 33, 256, 65536, 1 << 30, Integer.MAX_VALUE - 1, Integer.MAX_VALUE}) {
                Check.due("a chain of " + m + " with " + b + " marks", Parts.moves(Parts.program(Parts.chain(m)), b), want);
            }
        }
    }
}
