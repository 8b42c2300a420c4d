/** Promises 17 to 19: each sentence that names a boundary has a test of its own, headed by its words. */
public final class BoundsOfSweepTest {
    private static final int NONE = Bounds.NONE;
    private static final int LEAST = Bounds.LEAST;
    private static final int MOST = Bounds.MOST;
    private static final Bounds BOUNDS = new Bounds();

    public static void main(String[] args) {
        sweepOfOneInput();
        sweepWithoutVectors();
        sweepWithOneVector();
        sweepWithAllVectors();
        sweepAgain();
        sweepPartsGroups();
        sweepToFalseAndTrue();
        sweepToTheLeast();
        sweepOfTwelve();
        sweepWithoutOutputs();
        needsByRepresentatives();
        needsOnce();
        needsOfTheLatest();
        sweptNoSuchNode();
        sweptWithoutSweep();
        sweptOfTheLatest();
        toldNoSuchWhat();
        goneByEachChange();
        staysByWhatIsRefused();
        staysByWhatIsNoChange();
        BOUNDS.finish();
    }

    private static void due(String what, long got, long want) {
        BOUNDS.due(what, got, want);
    }

    private static SweepBench bench(int inputs) {
        return Bounds.bench(inputs);
    }

    private static void told(SweepBench x, int found, int asked, int needed, int own) {
        due("19: told(0)", x.told(0), found);
        due("19: told(1)", x.told(1), asked);
        due("19: told(2)", x.told(2), needed);
        due("19: told(3)", x.told(3), own);
    }

    private static void given(SweepBench x, int... words) {
        due("14: count(6)", x.count(6), words.length);
        for (int k = 0; k < words.length; k++) {
            due("13: given(" + k + ")", x.given(k), words[k]);
        }
    }

    private static void swept(SweepBench x, int... literals) {
        due("14: count(0)", x.count(0), literals.length);
        for (int k = 0; k < literals.length; k++) {
            due("18: swept(" + k + ")", x.swept(k), literals[k]);
        }
    }

    /** Terms: "for each node from 1 on (the inputs too)": one input, and nothing else. */
    private static void sweepOfOneInput() {
        SweepBench x = bench(1);
        due("17: sweep()", x.sweep(), 0);
        // The same as false: not for 1. So its contrary by that: not for 0.
        given(x, 1, 0);
        told(x, 2, 2, 0, 2);
        swept(x, 0, 2);
    }

    /** Terms: "the same if there is no VECTOR", and "the least INPUT WORD for which it is not so". */
    private static void sweepWithoutVectors() {
        SweepBench x = bench(3);
        x.gate(0, 1, 0, 2, 0);
        due("17: sweep()", x.sweep(), 0);
        // Input 0 is asked twice, inputs 1 and 2 once, as false; NOR of 0 and 2 is 0110 by then, LIKE none.
        given(x, 1, 0, 2, 4);
        told(x, 4, 4, 0, 5);
        swept(x, 0, 2, 4, 6, 8);
    }

    /** Terms: "by how their SIGNS are": by one VECTOR each node is the same as false, or its contrary. */
    private static void sweepWithOneVector() {
        SweepBench x = bench(1);
        x.vector(1);
        due("17: contrary by 1", x.sweep(), 0);
        given(x, 1, 0);
        told(x, 1, 1, 0, 2);
        x = bench(1);
        x.vector(0);
        due("17: the same by 0", x.sweep(), 0);
        given(x, 0, 1);
        told(x, 1, 1, 0, 2);
    }

    /** Terms: without a word to find, each CANDIDATE is the REPRESENTATIVE. */
    private static void sweepWithAllVectors() {
        SweepBench x = bench(2);
        x.gate(0, 0, 0, 1, 0);
        x.gate(0, 0, 2, 0, 0);
        for (int word = 0; word < 4; word++) {
            x.vector(word);
        }
        due("17: sweep()", x.sweep(), 1);
        given(x, 0, 1, 2, 3);
        told(x, 0, 1, 0, 4);
        swept(x, 0, 2, 4, 6, 6);
    }

    /** 17: the words FOUND are VECTORS for the next sweep(), which finds none. */
    private static void sweepAgain() {
        SweepBench x = Bounds.rich();
        int merged = x.sweep();
        due("19: found none", x.told(0), 0);
        due("19: asked the merged ones alone", x.told(1), merged);
        due("17: once more", x.sweep(), merged);
        due("19: found none", x.told(0), 0);
        x.forget();
        due("17: without vectors", x.sweep(), merged);
        due("19: found anew", x.told(0), x.count(6));
    }

    /** 17, 14: the words FOUND part GROUPS that were asked for ahead of the sweep. */
    private static void sweepPartsGroups() {
        SweepBench x = bench(2);
        due("14: without vectors", x.count(7), 1);
        due("15: without vectors", x.node(2, 2), 0);
        due("17: sweep()", x.sweep(), 0);
        due("14: parted", x.count(7), 3);
        due("15: parted", x.node(2, 2), 2);
    }

    /** Nodes 3 to 6: AND, false by two ways, and true. */
    private static SweepBench falseAndTrue() {
        SweepBench x = bench(2);
        x.gate(0, 0, 0, 1, 0);
        x.gate(0, 0, 2, ~0, 0);
        x.gate(0, 0, 2, ~1, 0);
        x.gate(0, 0, ~3, ~4, 0);
        return x;
    }

    /** Terms: "if it is the same as that, or its contrary": as node 0. */
    private static void sweepToFalseAndTrue() {
        SweepBench x = falseAndTrue();
        due("14: nodes", x.count(0), 7);
        due("17: sweep()", x.sweep(), 3);
        given(x, 1, 0, 2, 3);
        told(x, 4, 7, 0, 4);
        swept(x, 0, 2, 4, 6, 0, 0, 1);
    }

    /** Terms: "the least node below it that is its own REPRESENTATIVE": three that are the same have one. */
    private static void sweepToTheLeast() {
        SweepBench x = bench(2);
        x.gate(0, 0, 0, 1, 0);
        x.gate(0, 0, 2, 0, 0);
        x.gate(0, 0, 2, 1, 0);
        x.gate(0, 0, 3, 4, 0);
        x.gate(1, 3, 3, 1, 0);
        due("3: no such signal in circuit 1", x.count(3), 0);
        due("17: sweep()", x.sweep(), 3);
        swept(x, 0, 2, 4, 6, 6, 6, 6);
    }

    /** 17, Terms: "n 1 to 12": the last word of the longest row is found. */
    private static void sweepOfTwelve() {
        SweepBench x = bench(12);
        int all = Bounds.andOfAll(x, 0);
        x.output(0, ~all);
        due("17: sweep()", x.sweep(), 0);
        told(x, 24, 24, 11, 24);
        due("13: the last one", x.given(23), 4095);
        due("13: the one ahead", x.given(22), 2047);
        due("18: the last node", x.swept(23), 46);
        due("18: none behind it", x.swept(24), NONE);
    }

    /** 19: "ANDs that are SWEPT": none without OUTPUTS, nor of inputs and false. */
    private static void sweepWithoutOutputs() {
        SweepBench x = falseAndTrue();
        x.sweep();
        due("19: without outputs", x.told(2), 0);
        x.output(0, 0);
        x.output(0, ~1);
        x.output(0, x.gate(0, 8, 0, 0, 0));
        x.output(0, 3);
        x.output(0, ~5);
        x.sweep();
        due("19: inputs, and what is false or true", x.told(2), 0);
        x.output(1, 0);
        x.output(0, 2);
        x.sweep();
        due("19: one AND", x.told(2), 1);
    }

    /** Terms: "the representative of an OUTPUT's node, and of both sides of an AND that is needed". */
    private static void needsByRepresentatives() {
        SweepBench x = bench(2);
        x.gate(0, 0, 0, 1, 0);
        x.gate(0, 0, 2, 0, 0);
        x.output(0, 3);
        due("17: sweep()", x.sweep(), 1);
        due("19: the output's representative", x.told(2), 1);
        x = bench(2);
        x.gate(0, 0, 0, 1, 0);
        x.gate(0, 0, 2, 0, 0);
        x.gate(0, 0, ~3, 1, 0);
        x.output(0, ~4);
        due("17: sweep()", x.sweep(), 1);
        due("19: the sides' representatives", x.told(2), 2);
    }

    /** 19: an AND that OUTPUTS of both circuits need is one. */
    private static void needsOnce() {
        SweepBench x = bench(2);
        for (int circuit = 0; circuit < 2; circuit++) {
            x.gate(circuit, 0, 0, 1, 0);
            Bounds.fillOutputs(x, circuit, circuit == 0 ? 2 : ~2);
        }
        x.sweep();
        due("19: told(2)", x.told(2), 1);
    }

    /** 19: of either circuit, by either side, and no longer once the OUTPUT is gone. */
    private static void needsOfTheLatest() {
        for (int circuit = 0; circuit < 2; circuit++) {
            SweepBench x = bench(3);
            x.gate(circuit, 0, 0, 1, 0);
            x.gate(circuit, 0, ~0, 2, 0);
            x.gate(circuit, 0, ~3, ~4, 0);
            x.output(circuit, 5);
            x.sweep();
            due("19: all three", x.told(2), 3);
            x.sweep();
            due("19: all three again", x.told(2), 3);
            x.clear(circuit);
            x.sweep();
            due("19: none", x.told(2), 0);
            x.gate(circuit, 0, 0, 1, 0);
            x.gate(circuit, 0, ~0, 2, 0);
            x.gate(circuit, 0, ~3, ~4, 0);
            x.sweep();
            due("19: none without outputs", x.told(2), 0);
            x.output(circuit, ~4);
            x.sweep();
            due("19: one", x.told(2), 1);
        }
    }

    /** 18: "NONE otherwise, or without such a node". */
    private static void sweptNoSuchNode() {
        for (int k : new int[] {-1, -2, 972, 973, 1 << 30, LEAST, LEAST + 1, MOST}) {
            BOUNDS.refused("18: swept(" + k + ")", x -> x.swept(k));
        }
        BOUNDS.refused("18: behind the last", x -> x.swept(x.count(0)));
        BOUNDS.refused("18: the first is there", 0, x -> x.swept(0));
    }

    /** 18, 19: "Of the latest sweep()": there was none. */
    private static void sweptWithoutSweep() {
        SweepBench x = falseAndTrue();
        x.count(7);
        x.verdict();
        for (int k = -1; k < 8; k++) {
            due("18: swept(" + k + ")", x.swept(k), NONE);
            due("19: told(" + k + ")", x.told(k), NONE);
        }
    }

    /** 18, 19: "Of the latest sweep()", not of one ahead of it. */
    private static void sweptOfTheLatest() {
        SweepBench x = falseAndTrue();
        x.sweep();
        x.clear(0);
        x.sweep();
        told(x, 0, 0, 0, 3);
        swept(x, 0, 2, 4);
        due("18: no node 3 now", x.swept(3), NONE);
        x.inputs(1);
        x.sweep();
        told(x, 2, 2, 0, 2);
        swept(x, 0, 2);
    }

    /** 19: "NONE otherwise": another what. */
    private static void toldNoSuchWhat() {
        for (int what : new int[] {-1, 4, 5, 256, LEAST, LEAST + 1, MOST}) {
            BOUNDS.refused("19: told(" + what + ")", x -> x.told(what));
        }
    }

    private static void gone(String by, Bounds.Call call) {
        SweepBench x = Bounds.rich();
        int nodes = x.count(0);
        call.on(x);
        for (int k = 0; k < nodes; k++) {
            due("18: gone by " + by, x.swept(k), NONE);
        }
        for (int what = 0; what < 4; what++) {
            due("19: gone by " + by, x.told(what), NONE);
        }
        due("14: the graph is asked", x.count(0) > 1, 1);
        due("18: still gone by " + by, x.swept(0), NONE);
        x.sweep();
        due("18: there again", x.swept(0), 0);
    }

    private static void due(String what, boolean got, int want) {
        due(what, got ? 1 : 0, want);
    }

    /** 18: "as long as no circuit or INPUTS changed behind it". */
    private static void goneByEachChange() {
        for (int circuit = 0; circuit < 2; circuit++) {
            int c = circuit;
            gone("a gate", x -> x.gate(c, 0, 0, 1, 0));
            gone("a gate that makes no node", x -> x.gate(c, 8, 0, 0, 0));
            gone("an output", x -> x.output(c, 0));
            gone("clear", x -> x.clear(c));
            gone("read", x -> x.read(c));
        }
        gone("as many inputs", x -> x.inputs(2) ? 1 : 0);
        gone("fewer inputs", x -> x.inputs(1) ? 1 : 0);
        gone("more inputs", x -> x.inputs(12) ? 1 : 0);
    }

    private static void stays(String by, Bounds.Call call) {
        SweepBench x = Bounds.rich();
        String before = sweepOf(x);
        call.on(x);
        due("18: stays by " + by, sweepOf(x).equals(before), 1);
        due("18: it is there", x.swept(0), 0);
    }

    private static String sweepOf(SweepBench x) {
        StringBuilder all = new StringBuilder();
        for (int k = 0; k < 4; k++) {
            all.append(x.told(k)).append(' ');
        }
        for (int k = 0; k < x.count(0); k++) {
            all.append(x.swept(k)).append(' ');
        }
        return all.toString();
    }

    /** 18: a call that was refused changed nothing. */
    private static void staysByWhatIsRefused() {
        stays("no gate", x -> x.gate(0, 0, 4, 0, 0));
        stays("no output", x -> x.output(0, 4));
        stays("no circuit to clear", x -> x.clear(2));
        stays("no circuit to read", x -> x.read(2));
        stays("no inputs", x -> x.inputs(13) ? 1 : 0);
        stays("a fault", x -> x.end(25) + x.read(1));
    }

    /** 18: VECTORS and the TAPE are no circuit. */
    private static void staysByWhatIsNoChange() {
        stays("a vector", x -> x.vector(0) + x.vector(1) + x.vector(2) + x.vector(3));
        stays("forget", x -> x.forget());
        stays("feed", x -> x.feed(0, 0, 0, 0, 0));
        stays("end", x -> x.end(0));
        stays("questions", x -> x.count(7) + x.same(0) + x.differs(1) + x.verdict() + x.literal(0, 3));
    }
}
