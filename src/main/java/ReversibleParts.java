/**
 * Work that can be taken back: permutations of values turned into gates row by row, functions as
 * exclusive ors of the fewest products, programs whose steps are marked and unmarked with few marks
 * at a time.
 */
public final class ReversibleParts {
    public static final int NONE = -1;

    private static final int MOST_BITS = 4;
    private static final int MOST_VALUES = 16;
    private static final int MOST_STEPS = 12;
    private static final int MOST_MARKINGS = 4096;

    private final Table table;
    private final Forms forms;
    private final Steps steps;

    public ReversibleParts() {
        table = new Table();
        forms = new Forms();
        steps = new Steps();
    }

    public boolean begin(int n) {
        return table.startWith(n);
    }

    public boolean put(int value, int to) {
        return table.set(value, to);
    }

    public boolean apply(int gate) {
        return table.change(gate);
    }

    public int gate(int i) {
        if (!table.isPermutation()) {
            return NONE;
        }
        int count = table.findGates();
        return i == NONE ? count : table.foundFromLast(i);
    }

    public int look(int value) {
        return table.get(value);
    }

    public int form(int function, int i) {
        int bits = table.bitCount();
        if (function < 0 || function >= 1 << (1 << bits)) {
            return NONE;
        }
        long found = forms.least(bits, function);
        return i == NONE ? Forms.sizeOf(found) : Forms.numberAt(found, i);
    }

    public int product(int number) {
        int bits = table.bitCount();
        if (number < 0 || number >= Products.count(bits)) {
            return NONE;
        }
        return Products.function(bits, number);
    }

    public boolean program(int m) {
        return steps.startWith(m);
    }

    public boolean need(int step, int set) {
        return steps.setNeeds(step, set);
    }

    public int move(int b, int i) {
        if (b < 1) {
            return NONE;
        }
        Moves found = steps.movesWithin(b);
        if (found.length() == 0) {
            return NONE;
        }
        return i == NONE ? found.length() : found.at(i);
    }

    public int marks() {
        return steps.fewestMarks();
    }

    public int total(int what) {
        switch (what) {
            case 0:
                return table.bitCount();
            case 1:
                return steps.count();
            case 2:
                return table.isPermutation() ? 1 : 0;
            case 3:
                return table.bitCount() << (table.bitCount() - 1);
            case 4:
                return Products.count(table.bitCount());
            default:
                return NONE;
        }
    }

    /** What each VALUE has become, and the GATES that make it so. */
    private static final class Table {
        /** Each row asks for each bit at most once. */
        private static final int MOST_GATES = MOST_VALUES * MOST_BITS;

        private int bits;
        private int size;
        private final int[] to;
        private final int[] rest;
        private final int[] found;
        private int foundCount;

        Table() {
            to = new int[MOST_VALUES];
            rest = new int[MOST_VALUES];
            found = new int[MOST_GATES];
            bits = 1;
            size = 2;
            for (int v = 0; v < MOST_VALUES; v++) {
                to[v] = v;
            }
        }

        boolean startWith(int n) {
            if (n < 1 || n > MOST_BITS) {
                return false;
            }
            bits = n;
            size = 1 << n;
            for (int v = 0; v < MOST_VALUES; v++) {
                to[v] = v;
            }
            return true;
        }

        int bitCount() {
            return bits;
        }

        private boolean hasValue(int value) {
            return value >= 0 && value < size;
        }

        private boolean hasGate(int gate) {
            if (gate < 0) {
                return false;
            }
            int changed = gate >> 4;
            int condition = gate & 15;
            return changed < bits && condition < size && (condition >> changed & 1) == 0;
        }

        int get(int value) {
            return hasValue(value) ? to[value] : NONE;
        }

        boolean set(int value, int next) {
            if (!hasValue(value) || !hasValue(next)) {
                return false;
            }
            to[value] = next;
            return true;
        }

        boolean change(int gate) {
            if (!hasGate(gate)) {
                return false;
            }
            changeAll(to, gate);
            return true;
        }

        boolean isPermutation() {
            int seen = 0;
            for (int v = 0; v < size; v++) {
                seen |= 1 << to[v];
            }
            // as many values as rows: a value that came twice would leave another one out
            return seen == (1 << size) - 1;
        }

        /** Only for a PERMUTATION: answers how many were found, in the order ROW BY ROW. */
        int findGates() {
            foundCount = 0;
            for (int v = 0; v < size; v++) {
                rest[v] = to[v];
            }
            for (int v = 0; v < size; v++) {
                settleRow(v);
            }
            return foundCount;
        }

        int foundFromLast(int i) {
            return i >= 0 && i < foundCount ? found[foundCount - 1 - i] : NONE;
        }

        private void settleRow(int v) {
            for (int a = 0; a < bits; a++) {
                if ((v & ~rest[v] & 1 << a) != 0) {
                    useGate(a << 4 | rest[v]);
                }
            }
            for (int a = 0; a < bits; a++) {
                if ((rest[v] & ~v & 1 << a) != 0) {
                    useGate(a << 4 | v);
                }
            }
        }

        private void useGate(int gate) {
            changeAll(rest, gate);
            if (foundCount < MOST_GATES) {
                found[foundCount] = gate;
                foundCount++;
            }
        }

        /** The row is one of this object's, which have room for MOST_VALUES. */
        private void changeAll(int[] row, int gate) {
            int changed = 1 << (gate >> 4);
            int condition = gate & 15;
            for (int v = 0; v < size; v++) {
                if ((row[v] & condition) == condition) {
                    row[v] ^= changed;
                }
            }
        }
    }

    /** What a PRODUCT's number tells. */
    private static final class Products {
        private Products() {
        }

        static int count(int bits) {
            int power = 1;
            for (int bit = 0; bit < bits; bit++) {
                power *= 3;
            }
            return power;
        }

        static int function(int bits, int number) {
            int ones = 0;
            for (int v = 0; v < 1 << bits; v++) {
                if (holds(bits, number, v)) {
                    ones |= 1 << v;
                }
            }
            return ones;
        }

        private static boolean holds(int bits, int number, int value) {
            int left = number;
            for (int bit = 0; bit < bits; bit++) {
                int asked = left % 3;
                int has = value >> bit & 1;
                if (asked == 1 && has == 0 || asked == 2 && has == 1) {
                    return false;
                }
                left /= 3;
            }
            return true;
        }
    }

    /**
     * THE FORMS. Each is one long: how many PRODUCTS above, below it their numbers, the first one
     * highest, so that the lesser of two longs is the form that is asked for: fewer PRODUCTS, then
     * lesser numbers.
     *
     * The highest bit splits a FUNCTION in two halves. The PRODUCTS for which that bit counts for
     * nothing make some function g in both halves, and what is left of each half is made by
     * PRODUCTS of that half alone: so the least form is found by trying each g of one bit less.
     * In the numbers' order come those of g, those where the bit must be 1, those where it must be 0.
     */
    private static final class Forms {
        private static final int SIZE_SHIFT = 48;
        private static final int NUMBER_BITS = 7;
        private static final int NUMBER_MASK = 127;
        /** A 1 in the place of each number; forms of three bits, the longest to be joined, have three. */
        private static final long EACH_NUMBER = 1L | 1L << NUMBER_BITS | 1L << 2 * NUMBER_BITS;
        private static final long ALL_NUMBERS = (1L << SIZE_SHIFT) - 1;
        /** Comes behind each form that there is: none needs more than six products. */
        private static final long BEHIND_ALL = 6L << SIZE_SHIFT | ALL_NUMBERS;
        /** Where in the row the forms for 0, 1, 2, 3 bits begin. */
        private static final int[] START = {0, 2, 6, 22};
        private static final int ROW_LENGTH = 278;

        private final long[] row;
        /** Levels are filled when they are first asked for: most objects need few of them. */
        private int filled;

        Forms() {
            row = new long[ROW_LENGTH];
            // with no bits there is one product, 0, and it is the function 1
            row[1] = 1L << SIZE_SHIFT;
            filled = 1;
        }

        static int sizeOf(long form) {
            return (int) (form >>> SIZE_SHIFT);
        }

        static int numberAt(long form, int i) {
            int size = sizeOf(form);
            if (i < 0 || i >= size) {
                return NONE;
            }
            return (int) (form >>> NUMBER_BITS * (size - 1 - i)) & NUMBER_MASK;
        }

        /** bits is 1 .. MOST_BITS, and the function one of that many bits. */
        long least(int bits, int function) {
            for (int level = filled; level < bits; level++) {
                fillLevel(level);
            }
            return leastFrom(bits, function);
        }

        private void fillLevel(int level) {
            int functions = 1 << (1 << level);
            for (int function = 0; function < functions; function++) {
                row[START[level] + function] = leastFrom(level, function);
            }
            filled = level + 1;
        }

        private long leastFrom(int bits, int function) {
            int half = 1 << (bits - 1);
            int functions = 1 << half;
            int low = function & functions - 1;
            int high = function >> half & functions - 1;
            int start = START[bits - 1];
            int mustBeOne = Products.count(bits - 1);
            long best = BEHIND_ALL;
            for (int both = 0; both < functions; both++) {
                long first = row[start + both];
                long second = row[start + (high ^ both)];
                long third = row[start + (low ^ both)];
                // longer ones are passed by, for their numbers might not fit into a long
                if (sizeOf(first) + sizeOf(second) + sizeOf(third) <= sizeOf(best)) {
                    long whole = join(join(first, second, mustBeOne), third, 2 * mustBeOne);
                    best = Math.min(best, whole);
                }
            }
            return best;
        }

        /** The numbers of the head, then those of the tail with an amount added to each. */
        private static long join(long head, long tail, int added) {
            int tailSize = sizeOf(tail);
            int tailWidth = NUMBER_BITS * tailSize;
            long tailOnes = EACH_NUMBER & (1L << tailWidth) - 1;
            long numbers = (head & ALL_NUMBERS) << tailWidth | (tail & ALL_NUMBERS) + added * tailOnes;
            return (long) (sizeOf(head) + tailSize) << SIZE_SHIFT | numbers;
        }
    }

    /** THE MOVES for some number of marks; none if the length is 0. */
    private static final class Moves {
        private final int[] row;

        /** length is 0 or more. */
        Moves(int length) {
            row = new int[length < 0 ? 0 : length];
        }

        int length() {
            return row.length;
        }

        int at(int i) {
            return i >= 0 && i < row.length ? row[i] : NONE;
        }

        void set(int i, int step) {
            if (i >= 0 && i < row.length) {
                row[i] = step;
            }
        }
    }

    /** A PROGRAM, and the search for its MOVES. */
    private static final class Steps {
        private int count;
        private final int[] needs;
        /** For each number of marks what was found, null where the search has not been made. */
        private final Moves[] known;
        private final Moves nothing;
        /** For each set of marks 1 + how many moves are left to the goal, 0 where that is not known. */
        private int[] left;
        private int[] queue;
        private int queued;

        Steps() {
            count = 1;
            needs = new int[MOST_STEPS];
            known = new Moves[MOST_STEPS + 1];
            nothing = new Moves(0);
            left = new int[0];
            queue = new int[0];
        }

        boolean startWith(int m) {
            if (m < 1 || m > MOST_STEPS) {
                return false;
            }
            count = m;
            for (int step = 0; step < MOST_STEPS; step++) {
                needs[step] = 0;
            }
            forget();
            return true;
        }

        int count() {
            return count;
        }

        boolean setNeeds(int step, int set) {
            if (step < 0 || step >= count || set < 0 || set >= 1 << step) {
                return false;
            }
            needs[step] = set;
            forget();
            return true;
        }

        int fewestMarks() {
            for (int b = fewestThinkable(); b < count; b++) {
                if (movesWithin(b).length() > 0) {
                    return b;
                }
            }
            // all can be marked in their order and all but the last be unmarked backwards
            return count;
        }

        /** b is 1 or more. */
        Moves movesWithin(int b) {
            int most = Math.max(1, Math.min(b, count));
            Moves found = known[most];
            if (found == null) {
                found = search(most);
                known[most] = found;
            }
            return found;
        }

        private void forget() {
            for (int b = 0; b <= MOST_STEPS; b++) {
                known[b] = null;
            }
        }

        /** A step that is marked stands beside all that it needs. */
        private int fewestThinkable() {
            int wanted = wantedSteps();
            int fewest = 1;
            for (int step = 0; step < count; step++) {
                if ((wanted >> step & 1) == 1) {
                    fewest = Math.max(fewest, 1 + Integer.bitCount(needs[step]));
                }
            }
            return fewest;
        }

        /**
         * The last step and what it needs, itself or by way of others. Moves of another step can be
         * left out of any moves that reach the goal, so the fewest have none.
         */
        private int wantedSteps() {
            int wanted = 1 << (count - 1);
            for (int step = count - 1; step >= 0; step--) {
                if ((wanted >> step & 1) == 1) {
                    wanted |= needs[step];
                }
            }
            return wanted;
        }

        private Moves search(int most) {
            makeRoom();
            int wanted = wantedSteps();
            spreadFromGoal(wanted, most);
            if (left[0] == 0) {
                return nothing;
            }
            Moves found = new Moves(left[0] - 1);
            int marked = 0;
            for (int i = 0; i < found.length(); i++) {
                int step = firstStepNearer(marked);
                found.set(i, step);
                marked ^= 1 << step;
            }
            return found;
        }

        /** Only as long as a program has asked for: many objects never search, or search little. */
        private void makeRoom() {
            int markings = 1 << count;
            if (left.length < markings) {
                left = new int[markings];
                queue = new int[markings];
            }
        }

        /** Backwards from the goal, which is the same as forwards, for each move takes itself back. */
        private void spreadFromGoal(int wanted, int most) {
            for (int marked = 0; marked < 1 << count; marked++) {
                left[marked] = 0;
            }
            queued = 0;
            enter(1 << (count - 1), 1);
            // behind the first way to the empty set, all that stands nearer to the goal is known
            for (int next = 0; next < MOST_MARKINGS && next < queued && left[0] == 0; next++) {
                spreadFrom(queue[next], wanted, most);
            }
        }

        private void spreadFrom(int marked, int wanted, int most) {
            int distance = left[marked] + 1;
            // with all marks in use a step can only be unmarked
            int movable = Integer.bitCount(marked) < most ? wanted : wanted & marked;
            for (int step = 0; step < count; step++) {
                if ((movable >> step & 1) == 1) {
                    int need = needs[step];
                    int after = marked ^ 1 << step;
                    if ((marked & need) == need && left[after] == 0) {
                        enter(after, distance);
                    }
                }
            }
        }

        private void enter(int marked, int distance) {
            if (queued < queue.length) {
                left[marked] = distance;
                queue[queued] = marked;
                queued++;
            }
        }

        /** Only for marks whose distance is known and that are not the goal. */
        private int firstStepNearer(int marked) {
            int nearer = left[marked] - 1;
            for (int step = 0; step < count; step++) {
                int need = needs[step];
                if ((marked & need) == need && left[marked ^ 1 << step] == nearer) {
                    return step;
                }
            }
            return 0;
        }
    }
}
