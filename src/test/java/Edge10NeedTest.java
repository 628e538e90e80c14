/** The boundary cases of promise 10, sentence by sentence. */
public final class Edge10NeedTest {
    public static void main(String[] args) {
        whatAStepNeeds();
        noneSuch();
        notAhead();
        Check.finish();
    }

    private static void whatAStepNeeds() {
        Check.sentence("What a STEP NEEDS: true");
        for (int m = 1; m <= 12; m++) {
            ReversibleParts x = new ReversibleParts();
            x.program(m);
            Check.due("need(0, 0) of " + m, x.need(0, 0), true);
            Check.due("the last needs all ahead", x.need(m - 1, (1 << (m - 1)) - 1), true);
            Check.due("marks() then", x.marks(), m);
            Check.due("the last needs nothing", x.need(m - 1, 0), true);
            Check.due("marks() at last", x.marks(), 1);
            Check.due("the moves at last", Parts.moves(x, 1), new int[] {m - 1});
        }
        // what it needed until now it does not need any longer
        ReversibleParts x = Parts.program(0, 0, 3);
        Check.due("need(2, 2)", x.need(2, 2), true);
        Check.due("the moves for 2", Parts.moves(x, 2), new int[] {1, 2, 1});
        Check.due("need(2, 1)", x.need(2, 1), true);
        Check.due("the moves for 2 then", Parts.moves(x, 2), new int[] {0, 2, 0});
    }

    private static void noneSuch() {
        Check.sentence("false, changing nothing, if there is none such");
        for (int m : new int[] {1, 2, 6, 12}) {
            for (int step : new int[] {m, m + 1, 12, 13, 31, 32, 32 + m, 256, 65536, -1, -2, -m, -32, Integer.MIN_VALUE,
                    Integer.MIN_VALUE + m - 1, Integer.MAX_VALUE, Integer.MAX_VALUE - 31}) {
                for (int set : new int[] {0, 1, Integer.MIN_VALUE, Integer.MAX_VALUE, -1}) {
                    refused(m, step, set);
                }
            }
            // the last step there is stands beside them
            Check.due("need(last, 0) of " + m, Parts.program(Parts.chain(m)).need(m - 1, 0), true);
        }
        ReversibleParts fewer = Parts.program(Parts.allAhead(12));
        fewer.program(2);
        for (int step = 2; step < 12; step++) {
            Check.due("need(" + step + ", 0) of 2 behind 12", fewer.need(step, 0), false);
        }
    }

    private static void notAhead() {
        Check.sentence("or one is not ahead of it");
        for (int m : new int[] {1, 2, 3, 12}) {
            for (int step = 0; step < m; step += m == 12 ? 1 + step : 1) {
                int ahead = (1 << step) - 1;
                for (int i : new int[] {step, step + 1, m - 1, m, 12, 30, 31}) {
                    if (i >= step) {
                        refused(m, step, 1 << i);
                        refused(m, step, 1 << i | ahead);
                    }
                }
                for (int set : new int[] {-1, -2, ~ahead, Integer.MIN_VALUE, Integer.MIN_VALUE | ahead, Integer.MAX_VALUE, Integer.MAX_VALUE - ahead}) {
                    refused(m, step, set);
                }
                Check.due("all ahead of " + step, Parts.program(Parts.chain(m)).need(step, ahead), true);
            }
        }
    }

    private static void refused(int m, int step, int set) {
        Refusal.due("need(" + step + ", " + set + ")", 1, m, x -> x.need(step, set));
    }
}
