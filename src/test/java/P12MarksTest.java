import java.util.Random;

/** Promise 12. */
public final class P12MarksTest {
    public static void main(String[] args) {
        int[] chains = {0, 1, 2, 3, 3, 4, 4, 4, 4, 5, 5, 5, 5};
        for (int m = 1; m <= 12; m++) {
            Check.due("marks() of a chain of " + m, Parts.program(Parts.chain(m)).marks(), chains[m]);
        }
        Random random = new Random(12);
        for (int run = 0; run < 300; run++) {
            compare(random, 1 + random.nextInt(12));
        }
        Check.finish();
    }

    private static void compare(Random random, int m) {
        int[] needs = new int[m];
        int asked = random.nextInt(4);
        for (int step = 1; step < m; step++) {
            for (int i = 0; i < asked; i++) {
                needs[step] |= 1 << random.nextInt(step);
            }
        }
        ReversibleParts x = Parts.program(needs);
        int want = Oracle.marks(needs);
        Check.due("marks()", x.marks(), want);
        Check.due("move(marks() - 1, NONE)", x.move(want - 1, Parts.NONE), Parts.NONE);
        Check.due("there are moves for marks()", x.move(want, Parts.NONE) > 0, true);
        Check.due("marks() again", x.marks(), want);
    }
}
