import java.util.Arrays;

/** The boundary cases of the document's 'Terms', sentence by sentence. */
public final class Edge00TermsTest {
    public static void main(String[] args) {
        valuesHaveBits();
        gateChangesBit();
        bitNotInSet();
        gateNumber();
        tableAtFirst();
        noTwoAlike();
        rowByRow();
        bitsThatAreMissing();
        bitsThatAreTooMany();
        gatesMakeTheTable();
        whatAProductTells();
        oneForTheValues();
        functionBits();
        fewestProducts();
        numbersComeFirst();
        programSteps();
        stepsAhead();
        marksEmptyAtFirst();
        marksAndUnmarks();
        neededIsMarked();
        fewestMoves();
        atMostMarks();
        lastAlone();
        movesComeFirst();
        Check.finish();
    }

    private static void valuesHaveBits() {
        Check.sentence("VALUES have n bits (n is 1 .. 4): 0 .. 2^n - 1.");
        int[] last = {0, 1, 3, 7, 15};
        ReversibleParts x = new ReversibleParts();
        for (int n = 1; n <= 4; n++) {
            Check.due("begin(" + n + ")", x.begin(n), true);
            Check.due("look(0)", x.look(0), 0);
            Check.due("look(-1)", x.look(-1), Parts.NONE);
            Check.due("the last value of " + n + " bits", x.look(last[n]), last[n]);
            Check.due("the one behind it", x.look(last[n] + 1), Parts.NONE);
            Check.due("put(last, last)", x.put(last[n], last[n]), true);
            Check.due("put(behind, last)", x.put(last[n] + 1, last[n]), false);
            Check.due("put(last, behind)", x.put(last[n], last[n] + 1), false);
        }
        for (int other : new int[] {0, 5, -1, Integer.MIN_VALUE, Integer.MAX_VALUE}) {
            Check.due("begin(" + other + ")", x.begin(other), false);
            Check.due("look(15) behind begin(" + other + ")", x.look(15), 15);
        }
    }

    private static void gateChangesBit() {
        Check.sentence("A GATE (a, c): of a VALUE that has all bits of the set c (bit i is 2^i; a is not in c) bit a changes.");
        Check.due("(3, none): each value", behindGate(4, 48), new int[] {8, 9, 10, 11, 12, 13, 14, 15, 0, 1, 2, 3, 4, 5, 6, 7});
        Check.due("(3, 0 1 2): two values", behindGate(4, 55), new int[] {0, 1, 2, 3, 4, 5, 6, 15, 8, 9, 10, 11, 12, 13, 14, 7});
        Check.due("(0, 1 2 3): two values", behindGate(4, 14), new int[] {0, 1, 2, 3, 4, 5, 6, 7, 8, 9, 10, 11, 12, 13, 15, 14});
        Check.due("(1, 0 2): those with both", behindGate(3, 21), new int[] {0, 1, 2, 3, 4, 7, 6, 5});
        Check.due("(0, none) of 1 bit", behindGate(1, 0), new int[] {1, 0});
    }

    private static int[] behindGate(int n, int gate) {
        ReversibleParts x = Parts.values(n);
        Check.due("apply(" + gate + ")", x.apply(gate), true);
        return Parts.table(x);
    }

    private static void bitNotInSet() {
        Check.sentence("a is not in c");
        for (int n = 1; n <= 4; n++) {
            for (int a = 0; a < n; a++) {
                ReversibleParts x = Parts.values(n);
                int allOthers = (1 << n) - 1 - (1 << a);
                Check.due("apply: " + a + " and all others of " + n, x.apply(16 * a + allOthers), true);
                Check.due("apply: the same again", x.apply(16 * a + allOthers), true);
                Check.due("apply: " + a + " and itself alone", x.apply(16 * a + (1 << a)), false);
                Check.due("apply: " + a + " and all", x.apply(16 * a + allOthers + (1 << a)), false);
                Check.due("the table behind", x.gate(Parts.NONE), 0);
            }
        }
    }

    private static void gateNumber() {
        Check.sentence("Its number is 16 * a + c.");
        int[] greatest = {0, 0, 17, 35, 55};
        for (int n = 1; n <= 4; n++) {
            ReversibleParts x = Parts.values(n);
            Check.due("the least one", x.apply(0), true);
            Check.due("the one ahead of it", x.apply(-1), false);
            Check.due("the greatest one of " + n + " bits", x.apply(greatest[n]), true);
            for (int behind = greatest[n] + 1; behind < 130; behind++) {
                Check.due("apply(" + behind + ") of " + n + " bits", x.apply(behind), false);
            }
            for (int a = 0; a <= 4; a++) {
                Check.due("(" + a + ", none) of " + n + " bits", x.apply(16 * a), a < n);
                Check.due("ahead of (" + a + ", none)", x.apply(16 * a - 1), false);
            }
        }
    }

    private static void tableAtFirst() {
        Check.sentence("THE TABLE: for each VALUE a VALUE, at first itself");
        ReversibleParts x = new ReversibleParts();
        Check.due("of a new object", Parts.table(x), new int[] {0, 1});
        x.begin(4);
        Check.due("of 4 bits", Parts.table(x), new int[] {0, 1, 2, 3, 4, 5, 6, 7, 8, 9, 10, 11, 12, 13, 14, 15});
        Check.due("behind the last", x.look(16), Parts.NONE);
    }

    private static void noTwoAlike() {
        Check.sentence("it is a PERMUTATION, if no two are alike");
        for (int n = 1; n <= 4; n++) {
            int size = 1 << n;
            for (int v = 0; v < size; v++) {
                for (int w = 0; w < v; w++) {
                    int[] table = Parts.turned(n);
                    ReversibleParts x = Parts.table(n, table);
                    Check.due("with none alike", x.total(2), 1);
                    x.put(v, table[w]);
                    Check.due("with " + w + " and " + v + " alike", x.total(2), 0);
                    x.put(w, table[v]);
                    Check.due("with both changed", x.total(2), 1);
                }
            }
            Check.due("with all alike", Parts.table(n, new int[size]).total(2), 0);
        }
        // as many ones in each bit as a permutation has, and the same sum
        Check.due("two and two alike, the outer ones left out", Parts.table(2, 1, 1, 2, 2).total(2), 0);
        Check.due("two and two alike, the inner ones left out", Parts.table(2, 0, 3, 3, 0).total(2), 0);
        Check.due("two and two alike of 16", Parts.table(4, 0, 1, 2, 3, 4, 5, 6, 6, 9, 9, 10, 11, 12, 13, 14, 15).total(2), 0);
        eachTableOfTwoBits();
    }

    private static void eachTableOfTwoBits() {
        for (int number = 0; number < 256; number++) {
            int[] table = {number & 3, number >> 2 & 3, number >> 4 & 3, number >> 6};
            Check.due("total(2) of table " + number, Parts.table(2, table).total(2), Oracle.isPermutation(table) ? 1 : 0);
        }
    }

    private static void rowByRow() {
        Check.sentence("GATES are done to all VALUES of THE TABLE, so that it becomes, for v 0, 1, .., v at v: with t what is at v then");
        for (int n = 1; n <= 4; n++) {
            Check.due("rows that have v at v ask for none", Parts.gates(Parts.values(n)), new int[0]);
        }
        // row 0 has the last value, and its gates bring all other rows to what they ask for
        Check.due("the first row alone", Parts.gates(Parts.table(2, 3, 2, 1, 0)), new int[] {16, 0});
        // only the rows 14 and 15 are changed: row 15 needs nothing when row 14 is done
        Check.due("the last rows", Parts.gates(Parts.table(4, 0, 1, 2, 3, 4, 5, 6, 7, 8, 9, 10, 11, 12, 13, 15, 14)), new int[] {14});
        // row 0 has 1, then 0 2 1 3 stand; row 1 has 2, asks for two, then 0 1 3 2 stand; row 2 has 3
        Check.due("rows that others have changed", Parts.gates(Parts.table(2, 1, 3, 0, 2)), new int[] {2, 17, 2, 0});
    }

    private static void bitsThatAreMissing() {
        Check.sentence("for each bit a of v that t has not, the least first, (a, t as it is then)");
        // row 3 has 4: bit 0 under 4, bit 1 under 5, then bit 2 off under 3; row 4 has 7, row 5 has 7
        Check.due("3 and 4 changed", Parts.gates(Parts.table(3, 0, 1, 2, 4, 3, 5, 6, 7)), new int[] {21, 20, 4, 35, 21, 4});
        // row 7 has 8: bits 0, 1, 2 come on under 8, 9, 11
        int[] gates = Parts.gates(Parts.table(4, 0, 1, 2, 3, 4, 5, 6, 8, 7, 9, 10, 11, 12, 13, 14, 15));
        int[] lastFour = Arrays.copyOfRange(gates, gates.length - 4, gates.length);
        Check.due("7 and 8 changed", lastFour, new int[] {55, 43, 25, 8});
    }

    private static void bitsThatAreTooMany() {
        Check.sentence("then for each bit a that t has and v not, the least first, (a, v)");
        Check.due("each of 4 bits turned", Parts.gates(Parts.table(4, 15, 14, 13, 12, 11, 10, 9, 8, 7, 6, 5, 4, 3, 2, 1, 0)), new int[] {48, 32, 16, 0});
        Check.due("2 and 3 changed", Parts.gates(Parts.table(2, 0, 1, 3, 2)), new int[] {2});
        Check.due("bit 2 under 3", Parts.gates(Parts.table(3, 0, 1, 2, 7, 4, 5, 6, 3)), new int[] {35});
    }

    private static void gatesMakeTheTable() {
        Check.sentence("THE GATES are these, the last one first: they make of each VALUE what THE TABLE has for it.");
        for (int n = 1; n <= 4; n++) {
            Check.due("of a table with each at itself", Parts.gates(Parts.values(n)), new int[0]);
            ReversibleParts x = Parts.values(n);
            for (int gate : Parts.gates(Parts.table(n, Parts.turned(n)))) {
                Check.due("apply(" + gate + ")", x.apply(gate), true);
            }
            Check.due("what they make of each value", Parts.table(x), Parts.turned(n));
        }
    }

    private static void whatAProductTells() {
        Check.sentence("A PRODUCT tells of each bit that it counts for nothing (0), must be 1 (1), must be 0 (2): the number is the sum of that times 3^i for bit i.");
        int[] all = {0, 0x3, 0xF, 0xFF, 0xFFFF};
        int[] bit = {0xAAAA, 0xCCCC, 0xF0F0, 0xFF00};
        int[] power = {1, 3, 9, 27, 81};
        for (int n = 1; n <= 4; n++) {
            ReversibleParts x = Parts.values(n);
            Check.due("none counts", x.product(0), all[n]);
            for (int i = 0; i < n; i++) {
                Check.due("bit " + i + " must be 1", x.product(power[i]), bit[i] & all[n]);
                Check.due("bit " + i + " must be 0", x.product(2 * power[i]), ~bit[i] & all[n]);
            }
            Check.due("a bit that is not there must be 1", x.product(power[n]), Parts.NONE);
            Check.due("a bit that is not there must be 0", x.product(2 * power[n]), Parts.NONE);
        }
    }

    private static void oneForTheValues() {
        Check.sentence("It is 1 for the VALUES that are so.");
        int[] allOne = {0, 1, 4, 13, 40};
        for (int n = 1; n <= 4; n++) {
            ReversibleParts x = Parts.values(n);
            Check.due("all must be 1: the last value alone", x.product(allOne[n]), 1 << ((1 << n) - 1));
            Check.due("all must be 0: the value 0 alone", x.product(2 * allOne[n]), 1);
        }
        Check.due("bit 0 must be 1, bit 1 0, of 3 bits: 1 and 5", Parts.values(3).product(7), 0x22);
    }

    private static void functionBits() {
        Check.sentence("A FUNCTION is told by 2^n bits: bit v for VALUE v.");
        for (int n = 1; n <= 4; n++) {
            int size = 1 << n;
            for (int v = 0; v < size; v++) {
                int number = 0;
                for (int i = n - 1; i >= 0; i--) {
                    number = 3 * number + ((v >> i & 1) == 1 ? 1 : 2);
                }
                Check.due("the form of " + v + " alone", Parts.form(Parts.values(n), 1 << v), new int[] {number});
            }
            ReversibleParts x = Parts.values(n);
            Check.due("all bits", x.form((1 << size) - 1, Parts.NONE), 1);
            Check.due("one bit more", x.form(1 << size, Parts.NONE), Parts.NONE);
        }
    }

    private static void fewestProducts() {
        Check.sentence("the fewest PRODUCTS whose exclusive or it is");
        int[] most = {0, 1, 2, 3, 6};
        for (int n = 1; n <= 4; n++) {
            int[][] forms = Oracle.forms(n);
            int longest = 0;
            for (int function = 0; function < forms.length; function += n == 4 ? 29 : 1) {
                ReversibleParts x = Parts.values(n);
                int[] numbers = Parts.form(x, function);
                int made = 0;
                for (int number : numbers) {
                    made ^= x.product(number);
                }
                Check.due("the exclusive or of the form of " + function, made, function);
                Check.due("how many for " + function, numbers.length, forms[function].length);
                longest = Math.max(longest, numbers.length);
            }
            Check.due("the most of " + n + " bits", longest, most[n]);
        }
    }

    private static void numbersComeFirst() {
        Check.sentence("of several the one whose numbers come first (the least one first in each; of two the one whose first other number is the lesser one)");
        for (int n = 1; n <= 3; n++) {
            int[][] first = firstOfAllSets(n);
            for (int function = 0; function < first.length; function++) {
                Check.due("the form of " + function + " of " + n + " bits", Parts.form(Parts.values(n), function), first[function]);
            }
        }
    }

    /** Sets of up to three products, the smaller ones first and those of one size in their order. */
    private static int[][] firstOfAllSets(int n) {
        int products = Oracle.products(n);
        int[][] first = new int[1 << (1 << n)][];
        first[0] = new int[0];
        for (int p = 0; p < products; p++) {
            keepFirst(first, n, p);
        }
        for (int p = 0; p < products; p++) {
            for (int q = p + 1; q < products; q++) {
                keepFirst(first, n, p, q);
            }
        }
        for (int p = 0; p < products; p++) {
            for (int q = p + 1; q < products; q++) {
                for (int r = q + 1; r < products; r++) {
                    keepFirst(first, n, p, q, r);
                }
            }
        }
        return first;
    }

    private static void keepFirst(int[][] first, int n, int... numbers) {
        int function = 0;
        for (int number : numbers) {
            function ^= Oracle.product(n, number);
        }
        if (first[function] == null) {
            first[function] = numbers;
        }
    }

    private static void programSteps() {
        Check.sentence("A PROGRAM has m STEPS (1 .. 12)");
        ReversibleParts x = new ReversibleParts();
        for (int m : new int[] {12, 1, 11, 2}) {
            Check.due("program(" + m + ")", x.program(m), true);
            Check.due("total(1)", x.total(1), m);
            Check.due("need of the last", x.need(m - 1, 0), true);
            Check.due("need of the one behind it", x.need(m, 0), false);
            Check.due("need of the first", x.need(0, 0), true);
            Check.due("need of the one ahead of it", x.need(-1, 0), false);
        }
        for (int other : new int[] {0, 13, -1, Integer.MIN_VALUE, Integer.MAX_VALUE}) {
            Check.due("program(" + other + ")", x.program(other), false);
            Check.due("total(1) behind program(" + other + ")", x.total(1), 2);
        }
    }

    private static void stepsAhead() {
        Check.sentence("each NEEDS a set of STEPS ahead of it (STEP i is 2^i)");
        for (int step = 0; step < 12; step++) {
            ReversibleParts x = new ReversibleParts();
            x.program(12);
            Check.due("step " + step + " needs none", x.need(step, 0), true);
            Check.due("step " + step + " needs all ahead", x.need(step, (1 << step) - 1), true);
            Check.due("step " + step + " needs itself", x.need(step, 1 << step), false);
            Check.due("step " + step + " needs the one behind", x.need(step, 2 << step), false);
        }
    }

    private static void marksEmptyAtFirst() {
        Check.sentence("MARKS: a set of STEPS, empty at first.");
        for (int m = 1; m <= 12; m++) {
            ReversibleParts x = Parts.program(Parts.allAhead(m));
            Check.due("the first of all steps of " + m, x.move(m, 0), 0);
            Check.due("asked again, all are to be marked again", x.move(m, Parts.NONE), 2 * m - 1);
        }
    }

    private static void marksAndUnmarks() {
        Check.sentence("A MOVE i: STEP i is marked if it is not, unmarked if it is");
        Check.due("0 is marked and unmarked", Parts.moves(Parts.program(0, 1), 2), new int[] {0, 1, 0});
        Check.due("0 is marked and unmarked twice", Parts.moves(Parts.program(0, 1, 2, 4), 3), new int[] {0, 1, 0, 2, 3, 2, 0, 1, 0});
    }

    private static void neededIsMarked() {
        Check.sentence("all that it NEEDS must be marked");
        Check.due("all but one is too few", Parts.moves(Parts.program(0, 0, 0, 7), 3), null);
        Check.due("all is enough", Parts.moves(Parts.program(0, 0, 0, 7), 4), new int[] {0, 1, 2, 3, 0, 1, 2});
        // were nothing needed to unmark, 0 could be unmarked behind 1 once for all
        Check.due("to unmark too", Parts.moves(Parts.program(0, 1, 2), 3), new int[] {0, 1, 2, 1, 0});
    }

    private static void fewestMoves() {
        Check.sentence("THE MOVES for b: the fewest, with at most b MARKS at all times");
        int[] chainOfFive = {Parts.NONE, Parts.NONE, Parts.NONE, Parts.NONE, 11, 9, 9};
        ReversibleParts x = Parts.program(Parts.chain(5));
        for (int b = 0; b < chainOfFive.length; b++) {
            Check.due("how many for " + b, x.move(b, Parts.NONE), chainOfFive[b]);
        }
    }

    private static void atMostMarks() {
        Check.sentence("with at most b MARKS at all times");
        for (int m = 1; m <= 12; m++) {
            for (int b = 1; b <= m + 1; b++) {
                int[] needs = Parts.chain(m);
                int[] moves = Parts.moves(Parts.program(needs), b);
                if (moves != null) {
                    int most = mostMarks(needs, moves);
                    Check.due("a chain of " + m + " within " + b + ": " + most, most <= b, true);
                }
            }
            int fewest = Parts.program(Parts.chain(m)).marks();
            int[] moves = Parts.moves(Parts.program(Parts.chain(m)), fewest);
            Check.due("the fewest marks for a chain of " + m, mostMarks(Parts.chain(m), moves), fewest);
        }
    }

    /** The most marks at a time; each move is looked at, whether what it needs is marked. */
    private static int mostMarks(int[] needs, int[] moves) {
        int marks = 0;
        int most = 0;
        for (int step : moves) {
            Check.due("is marked, of what " + step + " needs", marks & needs[step], needs[step]);
            marks ^= 1 << step;
            most = Math.max(most, Integer.bitCount(marks));
        }
        return most;
    }

    private static void lastAlone() {
        Check.sentence("behind which the last STEP alone is marked");
        for (int m = 1; m <= 12; m++) {
            for (int[] needs : new int[][] {new int[m], Parts.chain(m), Parts.allAhead(m)}) {
                int marks = 0;
                for (int step : Parts.moves(Parts.program(needs), m)) {
                    marks ^= 1 << step;
                }
                Check.due("the marks behind the moves of " + m + " steps", marks, 1 << (m - 1));
            }
        }
    }

    private static void movesComeFirst() {
        Check.sentence("of several the one whose numbers come first");
        Check.due("0 ahead of 1, both ways", Parts.moves(Parts.program(0, 0, 3), 3), new int[] {0, 1, 2, 0, 1});
        for (int number = 0; number < 64; number++) {
            int[] needs = {0, number & 1, number >> 1 & 3, number >> 3 & 7};
            for (int b = 1; b <= 4; b++) {
                Check.due("of four steps, program " + number + " for " + b, Parts.moves(Parts.program(needs), b), firstOfAllWays(needs, b));
            }
        }
    }

    /** All ways, the shorter ones first and those of one length in their order; ten moves are enough for four steps. */
    private static int[] firstOfAllWays(int[] needs, int b) {
        for (int length = 1; length <= 10; length++) {
            int[] way = new int[length];
            if (goesOn(needs, b, way, 0, 0)) {
                return way;
            }
        }
        return null;
    }

    private static boolean goesOn(int[] needs, int b, int[] way, int done, int marks) {
        if (done == way.length) {
            return marks == 1 << (needs.length - 1);
        }
        for (int step = 0; step < needs.length; step++) {
            int after = marks ^ 1 << step;
            if ((marks & needs[step]) == needs[step] && Integer.bitCount(after) <= b) {
                way[done] = step;
                if (goesOn(needs, b, way, done + 1, after)) {
                    return true;
                }
            }
        }
        return false;
    }
}
