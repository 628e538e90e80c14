import java.util.Arrays;

/** What a call's sentence does not name stays as it was, and has no part in what the call answers. */
public final class EdgeAsideTest {
    private static final int[] NEAR = {-2, -1, 0, 1, 2, 3, 4, 5, 12, 15, 16};

    /** A call that asks, with both arguments that it may have. */
    private interface Ask {
        int of(ReversibleParts x, int first, int second);
    }

    /** A call that changes the values' side, or the program's. */
    private interface Change {
        boolean on(ReversibleParts x);
    }

    public static void main(String[] args) {
        askingChangesNothing();
        programStays();
        tableStays();
        formsOfAnyTable();
        movesOfAnyValues();
        Check.finish();
    }

    private static void askingChangesNothing() {
        Check.sentence("Nothing is promised beyond the answers and state changes described above");
        asks("gate", (x, i, unused) -> x.gate(i));
        asks("look", (x, value, unused) -> x.look(value));
        asks("form", (x, function, i) -> x.form(function, i));
        asks("product", (x, number, unused) -> x.product(number));
        asks("move", (x, b, i) -> x.move(b, i));
        asks("marks", (x, unused, other) -> x.marks());
        asks("total", (x, what, unused) -> x.total(what));
    }

    private static void asks(String name, Ask ask) {
        for (int kind = 0; kind < 4; kind++) {
            int[] untouched = State.of(some(kind));
            int[] good = State.behind(some(kind));
            ReversibleParts x = some(kind);
            for (int first : NEAR) {
                for (int second : new int[] {-1, 0, 7}) {
                    ask.of(x, first, second);
                }
            }
            Check.due("all behind " + name + ", kind " + kind, State.of(x), untouched);
            Check.due("good calls behind " + name + ", kind " + kind, State.behind(x), good);
        }
    }

    /** Permutations and others, programs with much needed and with little. */
    private static ReversibleParts some(int kind) {
        int n = 2 + kind / 2;
        int[] table = Parts.turned(n);
        if (kind % 2 == 1) {
            table[1] = table[0];
        }
        return Parts.programOf(Parts.table(n, table), kind % 2 == 0 ? Parts.chain(5) : Parts.allAhead(6));
    }

    private static void programStays() {
        Check.sentence("VALUES of n bits, THE TABLE as at first: true");
        staysForProgram("begin(1)", x -> x.begin(1));
        staysForProgram("begin(4)", x -> x.begin(4));
        Check.sentence("What THE TABLE has for a VALUE: true");
        staysForProgram("put(0, 1)", x -> x.put(0, 1));
        Check.sentence("The GATE with a number is done to all VALUES of THE TABLE: true");
        staysForProgram("apply(0)", x -> x.apply(0));
    }

    private static void staysForProgram(String name, Change change) {
        for (int[] needs : new int[][] {Parts.chain(7), Parts.allAhead(12), {0}, {0, 1, 1, 6}}) {
            for (boolean askedAhead : new boolean[] {false, true}) {
                ReversibleParts x = Parts.programOf(Parts.values(2), needs);
                if (askedAhead) {
                    x.marks();
                }
                Check.due(name, change.on(x), true);
                Check.due("total(1) behind " + name, x.total(1), needs.length);
                Check.due("marks() behind " + name, x.marks(), Oracle.marks(needs));
                Check.due("the moves behind " + name, Parts.moves(x, needs.length), Oracle.moves(needs, needs.length));
            }
        }
    }

    private static void tableStays() {
        Check.sentence("A PROGRAM of m STEPS, which NEED nothing: true");
        staysForTable("program(1)", x -> x.program(1));
        staysForTable("program(12)", x -> x.program(12));
        Check.sentence("What a STEP NEEDS: true");
        staysForTable("need(0, 0)", x -> x.need(0, 0));
        staysForTable("need(2, 3)", x -> x.need(2, 3));
    }

    private static void staysForTable(String name, Change change) {
        for (int n = 1; n <= 4; n++) {
            int[] turned = Parts.turned(n);
            int[] alike = new int[1 << n];
            Arrays.fill(alike, 1);
            for (int[] table : new int[][] {turned, alike}) {
                ReversibleParts x = Parts.programOf(Parts.table(n, table), 0, 0, 0);
                Check.due(name, change.on(x), true);
                Check.due("total(0) behind " + name, x.total(0), n);
                Check.due("the table behind " + name, Parts.table(x), table);
                Check.due("the gates behind " + name, Parts.gates(x), Oracle.gates(n, table));
            }
        }
    }

    private static void formsOfAnyTable() {
        Check.sentence("Of THE FORM of a FUNCTION (its 2^n bits as a number), i NONE: how many PRODUCTS, else the i-th one's number.");
        for (int n = 1; n <= 4; n++) {
            ReversibleParts x = Parts.programOf(Parts.table(n, new int[1 << n]), Parts.allAhead(5));
            Check.due("total(2) with all alike", x.total(2), 0);
            for (int function : new int[] {0, 1, 2, 3 << (1 << n) - 2, (1 << (1 << n)) - 1}) {
                Check.due("form of " + function + " with all alike", Parts.form(x, function), Oracle.forms(n)[function]);
            }
            Check.sentence("The FUNCTION that a PRODUCT is");
            for (int number = 0; number < Oracle.products(n); number++) {
                Check.due("product(" + number + ") with all alike", x.product(number), Oracle.product(n, number));
            }
        }
    }

    private static void movesOfAnyValues() {
        Check.sentence("Of THE MOVES for b, i NONE: how many, else the i-th one.");
        int[] needs = Parts.chain(6);
        for (int n = 1; n <= 4; n++) {
            for (int[] table : new int[][] {Parts.turned(n), new int[1 << n]}) {
                ReversibleParts x = Parts.programOf(Parts.table(n, table), needs);
                Check.due("marks() with " + n + " bits", x.marks(), 4);
                for (int b = 0; b <= 7; b++) {
                    Check.due("the moves for " + b + " with " + n + " bits", Parts.moves(x, b), Oracle.moves(needs, b));
                }
            }
        }
    }
}
