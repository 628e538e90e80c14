/** That a call is refused: it answers false, and nothing has changed, now or for the calls behind it. */
final class Refusal {
    /** A call with its arguments. */
    interface Call {
        boolean on(ReversibleParts x);
    }

    private Refusal() {
    }

    /** On a permutation and a program that needs all ahead, and on a table that is none and a chain. */
    static void due(String name, int n, int m, Call call) {
        int[] turned = Parts.turned(n);
        due(name, n, turned, Parts.allAhead(m), call);
        int[] twice = Parts.turned(n);
        twice[0] = twice[twice.length - 1];
        due(name, n, twice, Parts.chain(m), call);
    }

    private static void due(String name, int n, int[] table, int[] needs, Call call) {
        String where = name + " with " + n + " bits and " + needs.length + " steps";
        ReversibleParts x = Parts.programOf(Parts.table(n, table), needs);
        int[] before = State.of(x);
        Check.due(where, call.on(x), false);
        Check.due("the answers behind " + where, State.of(x), before);
        ReversibleParts unrefused = Parts.programOf(Parts.table(n, table), needs);
        Check.due("good calls behind " + where, State.behind(x), State.behind(unrefused));
        // an object that was asked ahead of the call might only remember what it answered
        ReversibleParts unasked = Parts.programOf(Parts.table(n, table), needs);
        Check.due(where + ", not asked ahead", call.on(unasked), false);
        Check.due("the first answers behind " + where, State.of(unasked), before);
    }
}
