import java.util.ArrayList;
import java.util.List;

/** What can be asked of an object, as one row of answers: where two rows are alike, nothing has changed. */
final class State {
    private State() {
    }

    /** Only asks: some 130 calls. */
    static int[] of(ReversibleParts x) {
        List<Integer> answers = new ArrayList<>();
        for (int what = -1; what <= 5; what++) {
            answers.add(x.total(what));
        }
        for (int value = -1; value <= 16; value++) {
            answers.add(x.look(value));
        }
        for (int i = -1; i <= Math.max(0, x.gate(Parts.NONE)); i++) {
            answers.add(x.gate(i));
        }
        int all = 1 << (1 << x.total(0));
        for (int function : new int[] {0, 1, all / 2, all - 1, all}) {
            answers.add(x.form(function, Parts.NONE));
            answers.add(x.form(function, 0));
        }
        for (int number : new int[] {0, x.total(4) - 1, x.total(4)}) {
            answers.add(x.product(number));
        }
        answers.add(x.marks());
        for (int b = 0; b <= 13; b++) {
            answers.add(x.move(b, Parts.NONE));
        }
        for (int i = 0; i <= x.move(12, Parts.NONE); i++) {
            answers.add(x.move(12, i));
        }
        return row(answers);
    }

    /** Changes the object: what comes of good calls behind; what each step needs shows in it too. */
    static int[] behind(ReversibleParts x) {
        List<Integer> answers = new ArrayList<>();
        int last = x.total(1) - 1;
        for (int step = 0; step < last; step++) {
            answers.add(x.need(last, 1 << step) ? 1 : 0);
            answers.add(x.marks());
            answers.add(x.move(12, Parts.NONE));
        }
        answers.add(x.apply(0) ? 1 : 0);
        answers.add(x.put(1, x.look(0)) ? 1 : 0);
        for (int value = 0; value < 16; value++) {
            answers.add(x.look(value));
        }
        answers.add(x.program(12) ? 1 : 0);
        answers.add(x.move(1, 0));
        answers.add(x.begin(4) ? 1 : 0);
        for (int value = 0; value < 16; value++) {
            answers.add(x.look(value));
        }
        return row(answers);
    }

    private static int[] row(List<Integer> answers) {
        return answers.stream().mapToInt(Integer::intValue).toArray();
    }
}
