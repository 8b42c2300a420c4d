/** What the tests of boundaries share: a bench with something of everything, and calls that must leave it so. */
final class Bounds {
    static final int NONE = SweepBench.NONE;
    static final int LEAST = Integer.MIN_VALUE;
    static final int MOST = Integer.MAX_VALUE;
    /** No circuit has such a number. */
    static final int[] NO_CIRCUITS = {-1, 2, 3, 256, 1 << 16, LEAST, LEAST + 1, MOST};
    /** One AND, its contrary is the OUTPUT. */
    static final String TEXT = "aag 3 2 0 1 1\n2\n4\n7\n6 2 4\n";
    /** The place of the FAULT that a rich bench has met. */
    static final int RICH_PLACE = 4;
    static final int MAX_GATES = 120;
    static final int MAX_OUTPUTS = 10;

    private final Check check = new Check();

    /** A call, and what it answered. */
    interface Call {
        int on(SweepBench x);
    }

    void due(String what, long got, long want) {
        check.due(what, got, want);
    }

    void due(String what, boolean got, boolean want) {
        check.due(what, got, want);
    }

    void finish() {
        check.finish();
    }

    static SweepBench bench(int inputs) {
        SweepBench x = new SweepBench();
        x.inputs(inputs);
        return x;
    }

    /** Two inputs; four SIGNALS of circuit 0, five of circuit 1; two OUTPUTS each, VECTORS, a sweep, TEXT, a FAULT. */
    static SweepBench rich() {
        SweepBench x = bench(2);
        x.gate(0, 2, 0, 1, 0);
        x.gate(0, 0, 0, ~1, 0);
        x.gate(1, 1, 0, 1, 0);
        x.gate(1, 3, 0, 1, 0);
        x.gate(1, 0, 2, 3, 0);
        x.output(0, 2);
        x.output(0, ~3);
        x.output(1, 4);
        x.output(1, 0);
        Check.put(x, "aag x");
        x.read(0);
        x.vector(3);
        x.sweep();
        Check.put(x, TEXT);
        return x;
    }

    /** A call that is refused: its answer, and that nothing happens, to the TAPE's bytes neither. */
    void refused(String what, int want, Call call) {
        SweepBench x = rich();
        String before = stateOf(x);
        due(what, call.on(x), want);
        String after = stateOf(x);
        if (!after.equals(before)) {
            System.out.println(before + "\n" + after);
        }
        due(what + ": nothing happens", after.equals(before), true);
        due(what + ": the tape's bytes stay", x.read(1), 0);
        due(what + ": the tape's bytes stay", x.literal(1, x.count(1)), 2 * (x.count(0) - 1));
    }

    void refused(String what, Call call) {
        refused(what, NONE, call);
    }

    /** All that questions can tell of a bench. */
    static String stateOf(SweepBench x) {
        return new StringBuilder().append(x.place()).append(' ').append(x.count(8)).append(" | ")
            .append(circuitsOf(x)).toString();
    }

    /** All but what read() of a FAULT changes: place() and the TAPE. */
    static String circuitsOf(SweepBench x) {
        StringBuilder state = new StringBuilder();
        for (int what = 0; what < 8; what++) {
            state.append(x.count(what)).append(' ');
        }
        state.append("| ").append(x.verdict()).append(" |");
        for (int what = 0; what < 4; what++) {
            state.append(' ').append(x.told(what));
        }
        addNodes(state.append(" |"), x);
        addSignals(state.append(" |"), x);
        for (int k = 0; k < x.count(6); k++) {
            state.append(' ').append(x.given(k));
        }
        state.append(" |");
        for (int i = 0; i < MAX_OUTPUTS; i++) {
            state.append(' ').append(x.differs(i)).append(' ').append(x.same(i));
        }
        return state.toString();
    }

    private static void addNodes(StringBuilder state, SweepBench x) {
        int nodes = x.count(0);
        for (int k = 0; k < nodes; k++) {
            state.append(' ').append(x.swept(k));
            for (int what = 0; what < 3; what++) {
                state.append(' ').append(x.node(k, what));
            }
        }
    }

    private static void addSignals(StringBuilder state, SweepBench x) {
        int inputs = x.count(1);
        for (int circuit = 0; circuit < 2; circuit++) {
            int signals = inputs + x.count(2 + circuit);
            for (int s = 0; s < signals; s++) {
                state.append(' ').append(x.literal(circuit, s));
            }
        }
    }

    /** Gates up to 120, each FALSE, so that the graph stays small. */
    static void fillWithFalse(SweepBench x, int circuit) {
        for (int g = x.count(2 + circuit); g < MAX_GATES; g++) {
            x.gate(circuit, 8, 0, 0, 0);
        }
    }

    static void fillOutputs(SweepBench x, int circuit, int s) {
        for (int i = x.count(4 + circuit); i < MAX_OUTPUTS; i++) {
            x.output(circuit, s);
        }
    }

    /** The AND of all inputs: its SIGNAL, which is true for the last INPUT WORD alone. */
    static int andOfAll(SweepBench x, int circuit) {
        int all = 0;
        for (int i = 1; i < x.count(1); i++) {
            all = x.gate(circuit, 0, all, i, 0);
        }
        return all;
    }
}
