import java.util.Random;

/** Promise 11. */
public final class P11MoveTest {
    public static void main(String[] args) {
        byHand();
        for (int m = 1; m <= 12; m++) {
            compare(Parts.chain(m));
            compare(Parts.allAhead(m));
        }
        eachProgramOfFour();
        Random random = new Random(11);
        for (int run = 0; run < 150; run++) {
            compare(anyNeeds(random, 1 + random.nextInt(12)));
            compare(anyNeeds(random, 12));
        }
        wrong();
        Check.finish();
    }

    private static void byHand() {
        ReversibleParts chain = Parts.program(0, 1, 2);
        Check.due("a chain of 3 with 3 marks", Parts.moves(chain, 3), new int[] {0, 1, 2, 1, 0});
        Check.due("a chain of 3 with 2 marks", Parts.moves(chain, 2), null);
        ReversibleParts four = Parts.program(0, 1, 2, 4);
        Check.due("a chain of 4 with 3 marks", Parts.moves(four, 3), new int[] {0, 1, 0, 2, 3, 2, 0, 1, 0});
        ReversibleParts fork = Parts.program(0, 0, 3, 0);
        Check.due("steps that the last one needs not", Parts.moves(fork, 4), new int[] {3});
        ReversibleParts two = Parts.program(0, 0, 0, 5);
        Check.due("two needed, one not", Parts.moves(two, 3), new int[] {0, 2, 3, 0, 2});
    }

    private static void eachProgramOfFour() {
        for (int number = 0; number < 64; number++) {
            compare(new int[] {0, number & 1, number >> 1 & 3, number >> 3 & 7});
        }
    }

    private static int[] anyNeeds(Random random, int m) {
        int[] needs = new int[m];
        int asked = 1 + random.nextInt(4);
        for (int step = 1; step < m; step++) {
            for (int i = 0; i < asked; i++) {
                needs[step] |= 1 << random.nextInt(step);
            }
        }
        return needs;
    }

    private static void compare(int[] needs) {
        for (int b = needs.length + 1; b >= 0; b--) {
            ReversibleParts x = Parts.program(needs);
            int[] want = Oracle.moves(needs, b);
            Check.due("how many moves for " + b, x.move(b, Parts.NONE), want == null ? Parts.NONE : want.length);
            if (want == null || want.length < 480) {
                Check.due("the moves for " + b, Parts.moves(x, b), want);
            }
        }
    }

    private static void wrong() {
        ReversibleParts x = Parts.program(Parts.chain(5));
        for (int i : Parts.FAR) {
            Check.due("move(4, " + i + ")", x.move(4, i), Parts.NONE);
        }
        for (int b : new int[] {3, 2, 1, 0, -1, -2, -4, Integer.MIN_VALUE}) {
            for (int i = -2; i < 3; i++) {
                Check.due("move(" + b + ", " + i + ")", x.move(b, i), Parts.NONE);
            }
        }
        for (int b : new int[] {5, 6, 12, 13, 32, 36, 1 << 16, Integer.MAX_VALUE}) {
            Check.due("the moves for " + b, Parts.moves(x, b), new int[] {0, 1, 2, 3, 4, 3, 2, 1, 0});
        }
        Check.due("move(4, NONE) behind all", x.move(4, Parts.NONE), 11);
    }
}
