/** The boundary cases of promise 1, sentence by sentence. */
public final class Edge01NewObjectTest {
    public static void main(String[] args) {
        oneBit();
        oneStep();
        Check.finish();
    }

    private static void oneBit() {
        Check.sentence("VALUES of 1 bit");
        ReversibleParts x = new ReversibleParts();
        Check.due("total(0)", x.total(0), 1);
        Check.due("look(-1)", x.look(-1), Parts.NONE);
        Check.due("look(0)", x.look(0), 0);
        Check.due("look(1)", x.look(1), 1);
        Check.due("look(2)", x.look(2), Parts.NONE);
        Check.due("put(1, 2)", x.put(1, 2), false);
        Check.due("put(2, 1)", x.put(2, 1), false);
        Check.due("apply(1)", x.apply(1), false);
        Check.due("apply(2)", x.apply(2), false);
        Check.due("apply(16)", x.apply(16), false);
        Check.due("form(3, NONE)", x.form(3, Parts.NONE), 1);
        Check.due("form(4, NONE)", x.form(4, Parts.NONE), Parts.NONE);
        Check.due("product(2)", x.product(2), 1);
        Check.due("product(3)", x.product(3), Parts.NONE);
        Check.due("gate(NONE)", x.gate(Parts.NONE), 0);
        Check.due("gate(0)", x.gate(0), Parts.NONE);
        Check.due("apply(0)", x.apply(0), true);
        Check.due("put(1, 1)", x.put(1, 1), true);
        Check.due("the table behind", Parts.table(x), new int[] {1, 1});
        ReversibleParts begun = Parts.values(1);
        Check.due("all as behind begin(1)", State.of(new ReversibleParts()), State.of(begun));
    }

    private static void oneStep() {
        Check.sentence("a PROGRAM of one STEP, which NEEDS nothing");
        ReversibleParts x = new ReversibleParts();
        Check.due("total(1)", x.total(1), 1);
        Check.due("move(0, NONE)", x.move(0, Parts.NONE), Parts.NONE);
        Check.due("move(1, NONE)", x.move(1, Parts.NONE), 1);
        Check.due("move(1, 0)", x.move(1, 0), 0);
        Check.due("move(1, 1)", x.move(1, 1), Parts.NONE);
        Check.due("marks()", x.marks(), 1);
        Check.due("need(0, 1)", x.need(0, 1), false);
        Check.due("need(1, 0)", x.need(1, 0), false);
        Check.due("need(1, 1)", x.need(1, 1), false);
        Check.due("need(-1, 0)", x.need(-1, 0), false);
        Check.due("need(0, 0)", x.need(0, 0), true);
        ReversibleParts begun = Parts.program(0);
        Check.due("all as behind program(1)", State.of(new ReversibleParts()), State.of(begun));
    }
}
