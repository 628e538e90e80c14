/** Promise 9. */
public final class P09ProgramTest {
    public static void main(String[] args) {
        for (int m = 1; m <= 12; m++) {
            nothingNeeded(m);
            wrongChangesNothing(m);
        }
        tableStays();
        Check.finish();
    }

    private static void nothingNeeded(int m) {
        ReversibleParts x = Parts.program(Parts.chain(12));
        Check.due("marks() of a chain of 12", x.marks(), 5);
        Check.due("program(" + m + ")", x.program(m), true);
        Check.due("total(1)", x.total(1), m);
        Check.due("marks()", x.marks(), 1);
        Check.due("the moves for 1", Parts.moves(x, 1), new int[] {m - 1});
        x.program(12);
        Check.due("the moves for 1 of 12 steps", Parts.moves(x, 1), new int[] {11});
    }

    private static void wrongChangesNothing(int m) {
        ReversibleParts x = Parts.program(Parts.chain(m));
        int[] before = Parts.moves(x, m);
        for (int wrong : new int[] {0, -1, 13, 14, 32, 33}) {
            refused(x, wrong, m, before);
        }
        for (int wrong : Parts.FAR) {
            refused(x, wrong, m, before);
        }
    }

    private static void refused(ReversibleParts x, int wrong, int m, int[] before) {
        Check.due("program(" + wrong + ")", x.program(wrong), false);
        Check.due("total(1) behind program(" + wrong + ")", x.total(1), m);
        Check.due("how many moves behind program(" + wrong + ")", x.move(m, Parts.NONE), before.length);
    }

    private static void tableStays() {
        ReversibleParts x = Parts.table(2, 3, 2, 1, 0);
        x.program(7);
        Check.due("total(0) behind program", x.total(0), 2);
        Check.due("the table behind program", Parts.table(x), new int[] {3, 2, 1, 0});
    }
}
