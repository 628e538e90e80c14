/** Promise 10. */
public final class P10NeedTest {
    public static void main(String[] args) {
        for (int m = 1; m <= 12; m++) {
            whatIsAhead(m);
            noSuchStep(m);
        }
        newNeedsForOld();
        for (int m = 2; m <= 12; m++) {
            nothingStaysKnown(m);
        }
        wrongChangesNothing();
        Check.finish();
    }

    private static void whatIsAhead(int m) {
        for (int step = 0; step < m; step++) {
            ReversibleParts x = new ReversibleParts();
            x.program(m);
            for (int i = 0; i < 14; i++) {
                Check.due("need(" + step + ", " + (1 << i) + ") of " + m, x.need(step, 1 << i), i < step);
                Check.due("need with what is there beside", x.need(step, 1 << i | (1 << step) - 1), i < step);
            }
            Check.due("need(" + step + ", 0)", x.need(step, 0), true);
            Check.due("need(" + step + ", all ahead)", x.need(step, (1 << step) - 1), true);
            Check.due("need(" + step + ", itself)", x.need(step, 1 << step), false);
            Check.due("need(" + step + ", -1)", x.need(step, -1), false);
            for (int far : Parts.FAR) {
                Check.due("need(" + step + ", " + far + ")", x.need(step, far), false);
            }
            if (step == m - 1) {
                Check.due("marks() with all ahead needed", x.marks(), m);
            }
        }
    }

    private static void noSuchStep(int m) {
        ReversibleParts x = new ReversibleParts();
        x.program(m);
        for (int step : new int[] {-1, m, m + 1, 12, 31, 32, 32 + m}) {
            Check.due("need(" + step + ", 0) of " + m, x.need(step, 0), false);
            Check.due("need(" + step + ", 1) of " + m, x.need(step, 1), false);
        }
        for (int far : Parts.FAR) {
            Check.due("need(" + far + ", 0) of " + m, x.need(far, 0), false);
        }
        Check.due("marks() behind", x.marks(), 1);
    }

    private static void newNeedsForOld() {
        ReversibleParts x = Parts.program(0, 0, 3);
        Check.due("the moves for 3", Parts.moves(x, 3), new int[] {0, 1, 2, 0, 1});
        Check.due("need(2, 2)", x.need(2, 2), true);
        Check.due("the moves for 3 then", Parts.moves(x, 3), new int[] {1, 2, 1});
        Check.due("marks() then", x.marks(), 2);
        Check.due("need(2, 0)", x.need(2, 0), true);
        Check.due("the moves for 3 at last", Parts.moves(x, 3), new int[] {2});
        Check.due("marks() at last", x.marks(), 1);
    }

    /** Other needs behind each answer: the answers are other ones too. */
    private static void nothingStaysKnown(int m) {
        int[] needs = Parts.chain(m);
        for (int b = 1; b <= m; b++) {
            ReversibleParts x = Parts.program(needs);
            int[] want = Oracle.moves(needs, b);
            Check.due("move(" + b + ", NONE) of a chain of " + m, x.move(b, Parts.NONE), want == null ? Parts.NONE : want.length);
            x.need(m - 1, 0);
            Check.due("the moves for " + b + " with nothing needed", Parts.moves(x, b), new int[] {m - 1});
            x.need(m - 1, 1);
            Check.due("the moves for " + b + " with step 0 needed", Parts.moves(x, b), b < 2 ? null : new int[] {0, m - 1, 0});
            x.program(m);
            Check.due("the moves for " + b + " of a new program", Parts.moves(x, b), new int[] {m - 1});
        }
    }

    private static void wrongChangesNothing() {
        int[] needs = {0, 1, 1, 6};
        ReversibleParts x = Parts.program(needs);
        int[] before = Parts.moves(x, 4);
        Check.due("the moves for 4", before, Oracle.moves(needs, 4));
        x.need(3, 8);
        x.need(3, -8);
        x.need(3, 14);
        x.need(4, 1);
        x.need(-1, 0);
        x.need(0, 1);
        x.need(1, 3);
        Check.due("the moves for 4 behind wrong needs", Parts.moves(x, 4), before);
        Check.due("marks() behind wrong needs", x.marks(), Oracle.marks(needs));
    }
}
