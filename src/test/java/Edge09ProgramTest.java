/** The boundary cases of promise 9, sentence by sentence. */
public final class Edge09ProgramTest {
    public static void main(String[] args) {
        needNothing();
        anotherNumber();
        Check.finish();
    }

    private static void needNothing() {
        Check.sentence("A PROGRAM of m STEPS, which NEED nothing: true");
        for (int from = 1; from <= 12; from++) {
            for (int m = 1; m <= 12; m++) {
                ReversibleParts x = Parts.program(Parts.allAhead(from));
                Check.due("marks() ahead", x.marks(), from);
                Check.due("program(" + m + ")", x.program(m), true);
                Check.due("total(1)", x.total(1), m);
                Check.due("marks()", x.marks(), 1);
                Check.due("the moves for 1", Parts.moves(x, 1), new int[] {m - 1});
                // each step in turn is needed: none of them needs another one
                for (int step = 0; step < m - 1; step++) {
                    Check.due("need(" + (m - 1) + ", " + (1 << step) + ")", x.need(m - 1, 1 << step), true);
                    Check.due("the moves for 2 behind it", Parts.moves(x, 2), new int[] {step, m - 1, step});
                }
                Check.due("program(12)", x.program(12), true);
                Check.due("the moves for 1 of 12 steps, behind fewer", Parts.moves(x, 1), new int[] {11});
                Check.due("need(11, 2047)", x.need(11, 2047), true);
                Check.due("how many moves for 12, behind fewer", x.move(12, Parts.NONE), 23);
                Check.due("the first unmarked, which none needs", x.move(12, 12), 0);
            }
        }
    }

    private static void anotherNumber() {
        Check.sentence("false, changing nothing, for another m");
        for (int m : new int[] {1, 2, 3, 11, 12}) {
            for (int other : new int[] {0, 13, 14, -1, -12, 16, 32, 33, 44, 257, 65537, 1 << 30, Integer.MIN_VALUE, Integer.MIN_VALUE + 1,
                    Integer.MIN_VALUE + 12, Integer.MAX_VALUE, Integer.MAX_VALUE - 1}) {
                Refusal.due("program(" + other + ")", 2, m, x -> x.program(other));
            }
        }
    }
}
