import java.util.function.ToIntFunction;

/** The sentence on an object's 512 calls. */
public final class EdgeLastCallTest {
    private static final int CALLS = 512;

    public static void main(String[] args) {
        lastCallAnswers();
        laterCallsEnd();
        Check.finish();
    }

    private static void lastCallAnswers() {
        Check.sentence("An object is used for at most 512 calls after it has been made");
        lastOfAll("begin(1)", x -> x.begin(1) ? 1 : 0, 1);
        lastOfAll("begin(5)", x -> x.begin(5) ? 1 : 0, 0);
        lastOfAll("put(15, 0)", x -> x.put(15, 0) ? 1 : 0, 1);
        lastOfAll("put(16, 0)", x -> x.put(16, 0) ? 1 : 0, 0);
        lastOfAll("apply(55)", x -> x.apply(55) ? 1 : 0, 1);
        lastOfAll("apply(56)", x -> x.apply(56) ? 1 : 0, 0);
        lastOfAll("gate(NONE)", x -> x.gate(Parts.NONE), 4);
        lastOfAll("gate(3)", x -> x.gate(3), 0);
        lastOfAll("gate(4)", x -> x.gate(4), Parts.NONE);
        lastOfAll("look(15)", x -> x.look(15), 0);
        lastOfAll("look(16)", x -> x.look(16), Parts.NONE);
        lastOfAll("form(27030, NONE)", x -> x.form(27030, Parts.NONE), 4);
        lastOfAll("form(65536, NONE)", x -> x.form(65536, Parts.NONE), Parts.NONE);
        lastOfAll("product(80)", x -> x.product(80), 1);
        lastOfAll("product(81)", x -> x.product(81), Parts.NONE);
        lastOfAll("program(12)", x -> x.program(12) ? 1 : 0, 1);
        lastOfAll("program(13)", x -> x.program(13) ? 1 : 0, 0);
        lastOfAll("need(11, 2047)", x -> x.need(11, 2047) ? 1 : 0, 1);
        lastOfAll("need(11, 2048)", x -> x.need(11, 2048) ? 1 : 0, 0);
        lastOfAll("move(12, NONE)", x -> x.move(12, Parts.NONE), 23);
        lastOfAll("move(4, NONE)", x -> x.move(4, Parts.NONE), Parts.NONE);
        lastOfAll("marks()", x -> x.marks(), 5);
        lastOfAll("total(1)", x -> x.total(1), 12);
        lastOfAll("total(5)", x -> x.total(5), Parts.NONE);
    }

    /** The 512th call, behind calls that change much: all bits turned at last, and a chain of 12 steps. */
    private static void lastOfAll(String name, ToIntFunction<ReversibleParts> call, int want) {
        ReversibleParts x = new ReversibleParts();
        int calls = 0;
        while (calls < CALLS - 18) {
            change(x, calls);
            calls++;
        }
        x.begin(4);
        for (int a = 0; a < 4; a++) {
            x.apply(16 * a);
        }
        x.program(12);
        for (int step = 1; step < 12; step++) {
            x.need(step, 1 << (step - 1));
        }
        calls += 17;
        Check.due("calls ahead of it", calls, CALLS - 1);
        Check.due(name + " as the last call", call.applyAsInt(x), want);
    }

    private static void change(ReversibleParts x, int call) {
        switch (call % 7) {
            case 0 -> x.begin(1 + call % 4);
            case 1 -> x.put(call % 3, call % 5);
            case 2 -> x.program(1 + call % 12);
            case 3 -> x.need(call % 12, call % 64);
            case 4 -> x.form(call, Parts.NONE);
            case 5 -> x.marks();
            default -> x.apply(call % 64);
        }
    }

    /** What they answer is free, but they end, and nothing is thrown. */
    private static void laterCallsEnd() {
        Check.sentence("what later calls answer is free");
        ReversibleParts x = new ReversibleParts();
        int calls = 0;
        while (calls < 20 * CALLS) {
            change(x, calls);
            calls++;
        }
        Check.due("calls that ended", calls, 20 * CALLS);
    }
}
