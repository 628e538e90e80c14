/** Ways to set up an object and to read whole answers from it. */
final class Parts {
    static final int NONE = ReversibleParts.NONE;
    /** Arguments that are wrong nearly everywhere. */
    static final int[] FAR = {Integer.MIN_VALUE, -65536, -64, -17, -16, -5, -4, -3, -2, 1 << 16, 1 << 20, Integer.MAX_VALUE};

    private Parts() {
    }

    static ReversibleParts values(int n) {
        ReversibleParts x = new ReversibleParts();
        Check.due("begin(" + n + ")", x.begin(n), true);
        return x;
    }

    static ReversibleParts table(int n, int... to) {
        ReversibleParts x = values(n);
        for (int v = 0; v < to.length; v++) {
            Check.due("put(" + v + ", " + to[v] + ")", x.put(v, to[v]), true);
        }
        return x;
    }

    static ReversibleParts program(int... needs) {
        return programOf(new ReversibleParts(), needs);
    }

    static ReversibleParts programOf(ReversibleParts x, int... needs) {
        Check.due("program(" + needs.length + ")", x.program(needs.length), true);
        for (int step = 0; step < needs.length; step++) {
            Check.due("need(" + step + ", " + needs[step] + ")", x.need(step, needs[step]), true);
        }
        return x;
    }

    /** Each value has the next one, the last one has 0: a permutation in which none has itself. */
    static int[] turned(int n) {
        int[] to = new int[1 << n];
        for (int v = 0; v < to.length; v++) {
            to[v] = (v + 1) % to.length;
        }
        return to;
    }

    static int[] allAhead(int m) {
        int[] needs = new int[m];
        for (int step = 0; step < m; step++) {
            needs[step] = (1 << step) - 1;
        }
        return needs;
    }

    static int[] chain(int m) {
        int[] needs = new int[m];
        for (int step = 1; step < m; step++) {
            needs[step] = 1 << (step - 1);
        }
        return needs;
    }

    static int[] table(ReversibleParts x) {
        int[] to = new int[1 << x.total(0)];
        for (int v = 0; v < to.length; v++) {
            to[v] = x.look(v);
        }
        return to;
    }

    /** null if there are none; what stands beside the last one is asked for too. */
    static int[] gates(ReversibleParts x) {
        int count = x.gate(NONE);
        if (count == NONE) {
            Check.due("gate(0) where gate(NONE) is NONE", x.gate(0), NONE);
            return null;
        }
        int[] all = new int[count];
        for (int i = 0; i < count; i++) {
            all[i] = x.gate(i);
        }
        Check.due("gate behind the last", x.gate(count), NONE);
        return all;
    }

    static int[] form(ReversibleParts x, int function) {
        int count = x.form(function, NONE);
        if (count == NONE) {
            Check.due("form(" + function + ", 0) where there is none", x.form(function, 0), NONE);
            return null;
        }
        int[] all = new int[count];
        for (int i = 0; i < count; i++) {
            all[i] = x.form(function, i);
        }
        Check.due("form behind the last of " + function, x.form(function, count), NONE);
        return all;
    }

    static int[] moves(ReversibleParts x, int b) {
        int count = x.move(b, NONE);
        if (count == NONE) {
            Check.due("move(" + b + ", 0) where there is none", x.move(b, 0), NONE);
            return null;
        }
        int[] all = new int[count];
        for (int i = 0; i < count; i++) {
            all[i] = x.move(b, i);
        }
        Check.due("move behind the last for " + b, x.move(b, count), NONE);
        return all;
    }
}
