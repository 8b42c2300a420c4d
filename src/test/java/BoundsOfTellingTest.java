/** Promises 1 to 7: each sentence that names a boundary has a test of its own, headed by its words. */
public final class BoundsOfTellingTest {
    private static final int NONE = Bounds.NONE;
    private static final int LEAST = Bounds.LEAST;
    private static final int MOST = Bounds.MOST;
    private static final Bounds BOUNDS = new Bounds();

    public static void main(String[] args) {
        newInputs();
        newCircuits();
        newVectors();
        newTape();
        newWithoutFaultAndSweep();
        newObjectsAreApart();
        fewestInputs();
        mostInputs();
        everyNumberOfInputs();
        inputsTakeAllAway();
        inputsBackAndForth();
        inputsRefused();
        gateNoSuchCircuit();
        gateNoSuchKind();
        gateSignalNotThere();
        gateThirdNotThere();
        gateSignalNotTaken();
        gateLastSignal();
        gatesFull();
        gatesFullByRead();
        refusedGatesTakeNoRoom();
        outputNoSuchCircuit();
        outputSignalNotThere();
        outputLastSignal();
        outputsFull();
        outputsFullByRead();
        clearNoSuchCircuit();
        clearEmpty();
        clearOutputsAlone();
        clearFull();
        clearLeavesTheRest();
        feedUpToFull();
        feedOneTooMany();
        feedRefusedLeavesBytes();
        feedHighestFirst();
        endAll();
        endTooMany();
        endBelowZero();
        endEmpty();
        endFirstAlone();
        BOUNDS.finish();
    }

    private static void due(String what, long got, long want) {
        BOUNDS.due(what, got, want);
    }

    private static void due(String what, boolean got, boolean want) {
        BOUNDS.due(what, got, want);
    }

    private static SweepBench bench(int inputs) {
        return Bounds.bench(inputs);
    }

    /** 1: "4 inputs". */
    private static void newInputs() {
        SweepBench x = new SweepBench();
        due("1: count(1)", x.count(1), 4);
        due("1: nodes", x.count(0), 5);
        for (int circuit = 0; circuit < 2; circuit++) {
            due("1: input 3", x.literal(circuit, 3), 8);
            due("1: no input 4", x.literal(circuit, 4), NONE);
            due("1: word 15", x.value(circuit, 3, 15), 1);
            due("1: no word 16", x.value(circuit, 3, 16), NONE);
        }
    }

    /** 1: "two circuits without GATES and OUTPUTS". */
    private static void newCircuits() {
        SweepBench x = new SweepBench();
        for (int circuit = 0; circuit < 2; circuit++) {
            due("1: gates", x.count(2 + circuit), 0);
            due("1: outputs", x.count(4 + circuit), 0);
            due("1: clear", x.clear(circuit), 0);
        }
        due("1: same(0)", x.same(0), NONE);
        due("1: differs(0)", x.differs(0), NONE);
        due("1: verdict()", x.verdict(), 1);
        for (int circuit = 0; circuit < 2; circuit++) {
            due("1: the first gate", x.gate(circuit, 8, 0, 0, 0), 4);
            due("1: the first output", x.output(circuit, 4), 0);
        }
    }

    /** 1: "no VECTORS". */
    private static void newVectors() {
        SweepBench x = new SweepBench();
        due("1: count(6)", x.count(6), 0);
        due("1: given(0)", x.given(0), NONE);
        due("1: one group", x.count(7), 1);
        due("1: forget()", x.forget(), 0);
        due("1: the first vector", x.vector(0), 1);
    }

    /** 1: "an empty TAPE". */
    private static void newTape() {
        SweepBench x = new SweepBench();
        due("1: count(8)", x.count(8), 0);
        due("1: end(1)", x.end(1), NONE);
        due("1: end(0)", x.end(0), 0);
        due("1: read(0)", x.read(0), 1);
        due("1: place()", x.place(), 0);
        due("1: the first feed", x.feed(0, 0, 0, 0, 0), 20);
    }

    /** 1, with 9, 18 and 19: no read() and no sweep() yet. */
    private static void newWithoutFaultAndSweep() {
        SweepBench x = new SweepBench();
        due("9: place()", x.place(), NONE);
        for (int k = -1; k < 6; k++) {
            due("18: swept(" + k + ")", x.swept(k), NONE);
            due("19: told(" + k + ")", x.told(k), NONE);
        }
    }

    /** 1: a new object is so, whatever was told to others. */
    private static void newObjectsAreApart() {
        String fresh = Bounds.stateOf(new SweepBench());
        SweepBench earlier = new SweepBench();
        Bounds.rich();
        due("1: one made behind another's calls", Bounds.stateOf(new SweepBench()).equals(fresh), true);
        due("1: one made ahead of them", Bounds.stateOf(earlier).equals(fresh), true);
    }

    /** 2, Terms: "INPUTS are 0 to n - 1, n 1 to 12": 1. */
    private static void fewestInputs() {
        SweepBench x = new SweepBench();
        due("2: inputs(1)", x.inputs(1), true);
        due("2: count(1)", x.count(1), 1);
        due("2: signal 0", x.literal(0, 0), 2);
        due("2: signal 1", x.literal(0, 1), NONE);
        due("2: the first gate", x.gate(0, 0, 0, ~0, 0), 1);
        due("2: word 1", x.vector(1), 1);
        due("2: word 2", x.vector(2), NONE);
    }

    /** 2, Terms: "INPUTS are 0 to n - 1, n 1 to 12": 12. */
    private static void mostInputs() {
        SweepBench x = new SweepBench();
        due("2: inputs(12)", x.inputs(12), true);
        due("2: count(1)", x.count(1), 12);
        due("2: signal 11", x.literal(1, 11), 24);
        due("2: signal 12", x.literal(1, 12), NONE);
        due("2: the first gate", x.gate(1, 0, 0, ~11, 0), 12);
        due("2: word 4095", x.vector(4095), 1);
        due("2: word 4096", x.vector(4096), NONE);
    }

    /** Terms: "an INPUT WORD has n bits, input 0 the lowest"; "nodes 1 .. n the inputs". */
    private static void everyNumberOfInputs() {
        for (int n = 1; n <= 12; n++) {
            SweepBench x = bench(n);
            due("2: nodes of " + n, x.count(0), n + 1);
            for (int i = 0; i < n; i++) {
                due("2: its literal", x.literal(0, i), 2 * i + 2);
                due("2: its bit alone", x.value(0, i, 1 << i), 1);
                due("2: all bits but it", x.value(0, i, (1 << n) - 1 ^ 1 << i), 0);
                due("2: its contrary", x.value(1, ~i, 1 << i), 0);
            }
            due("2: signal " + n, x.value(0, n, 0), NONE);
            due("2: contrary of " + n, x.value(0, ~n, 0), NONE);
        }
    }

    /** 2: "both circuits, all VECTORS are gone: true", of the same number, too; the TAPE and place() are no such. */
    private static void inputsTakeAllAway() {
        SweepBench x = Bounds.rich();
        due("2: inputs(2)", x.inputs(2), true);
        int[] counts = {3, 2, 0, 0, 0, 0, 0, 1, Bounds.TEXT.length()};
        for (int what = 0; what < counts.length; what++) {
            due("2: count(" + what + ")", x.count(what), counts[what]);
        }
        due("2: given(0)", x.given(0), NONE);
        due("2: swept(0)", x.swept(0), NONE);
        due("2: told(3)", x.told(3), NONE);
        due("2: same(0)", x.same(0), NONE);
        due("2: place()", x.place(), Bounds.RICH_PLACE);
        due("2: signals are from n on anew", x.gate(0, 8, 0, 0, 0), 2);
        due("2: a vector may come again", x.vector(3), 1);
        due("2: the tape is as it was", x.read(0), 0);
    }

    /** 2: "So many INPUTS from now on", from many to few and back. */
    private static void inputsBackAndForth() {
        SweepBench x = bench(12);
        x.output(0, Bounds.andOfAll(x, 0));
        x.vector(4095);
        due("2: nodes of twelve", x.count(0), 24);
        x.inputs(1);
        due("2: nodes of one", x.count(0), 2);
        due("2: sweep of one", x.sweep(), 0);
        due("2: its words", x.count(6), 2);
        x.inputs(12);
        due("2: no word is left", x.count(6), 0);
        due("2: the last word", x.vector(4095), 1);
        x.output(0, Bounds.andOfAll(x, 0));
        x.gate(1, 8, 0, 0, 0);
        x.output(1, 12);
        due("2: the last word parts them", x.differs(0), 4095);
    }

    /** 2: "false, and nothing happens, if n is not 1 to 12". */
    private static void inputsRefused() {
        for (int n : new int[] {0, 13, -1, 14, -12, 256 + 2, 1 << 16 | 2, LEAST, LEAST + 2, MOST}) {
            BOUNDS.refused("2: inputs(" + n + ")", 0, x -> x.inputs(n) ? 1 : 0);
        }
    }

    /** 3: "NONE, and none comes: there is no such circuit". */
    private static void gateNoSuchCircuit() {
        for (int circuit : Bounds.NO_CIRCUITS) {
            BOUNDS.refused("3: circuit " + circuit, x -> x.gate(circuit, 0, 0, 1, 0));
            BOUNDS.refused("3: circuit " + circuit, x -> x.gate(circuit, 8, 0, 0, 0));
        }
    }

    /** 3: "or kind". */
    private static void gateNoSuchKind() {
        for (int kind : new int[] {-1, 9, 10, 256, LEAST, LEAST + 8, MOST}) {
            BOUNDS.refused("3: kind " + kind, x -> x.gate(0, kind, 0, 1, 0));
            BOUNDS.refused("3: kind " + kind, x -> x.gate(1, kind, 0, 1, 0));
        }
        SweepBench x = bench(2);
        due("3: the first kind", x.gate(0, 0, 0, 1, 0), 2);
        due("3: the last kind", x.gate(0, 8, 0, 1, 0), 3);
    }

    /** What is no SIGNAL of a circuit that has so many, nor a contrary. */
    private static int[] notThere(int signals) {
        return new int[] {signals, ~signals, signals + 1, ~(signals + 1), 256, LEAST, ~LEAST, LEAST + 1, MOST - 1};
    }

    /** 3: "a SIGNAL that it takes is not there": a, b; circuit 0 has four, circuit 1 five. */
    private static void gateSignalNotThere() {
        for (int kind = 0; kind < 8; kind++) {
            int k = kind;
            for (int circuit = 0; circuit < 2; circuit++) {
                int c = circuit;
                for (int s : notThere(4 + circuit)) {
                    BOUNDS.refused("3: kind " + k + ", a " + s, x -> x.gate(c, k, s, 0, 0));
                    BOUNDS.refused("3: kind " + k + ", b " + s, x -> x.gate(c, k, 0, s, 0));
                }
            }
        }
    }

    /** 3: "a SIGNAL that it takes is not there": c, of MUX and MAJ. */
    private static void gateThirdNotThere() {
        for (int kind = 6; kind < 8; kind++) {
            int k = kind;
            for (int s : notThere(4)) {
                BOUNDS.refused("3: kind " + k + ", c " + s, x -> x.gate(0, k, 0, 1, s));
            }
            for (int s : notThere(5)) {
                BOUNDS.refused("3: kind " + k + ", c " + s, x -> x.gate(1, k, 0, 1, s));
            }
        }
    }

    /** 3: "a SIGNAL that it takes": what a kind does not take may be anything. */
    private static void gateSignalNotTaken() {
        for (int s : notThere(4)) {
            SweepBench x = bench(4);
            for (int kind = 0; kind < 6; kind++) {
                due("3: kind " + kind + ", c " + s, x.gate(0, kind, 0, 1, s), 4 + kind);
            }
            due("3: FALSE", x.gate(0, 8, s, s, s), 10);
            due("16: the AND", x.literal(0, 4), 10);
            due("16: FALSE is false", x.literal(0, 10), 0);
        }
    }

    /** 3: the SIGNAL just told is there for the next GATE, and so is its contrary. */
    private static void gateLastSignal() {
        SweepBench x = bench(2);
        due("3: of the last input", x.gate(0, 0, 1, ~1, 0), 2);
        due("3: of the last gate", x.gate(0, 0, 2, ~2, 0), 3);
        due("3: as c", x.gate(0, 6, 3, ~3, 3), 4);
        due("3: as c's contrary", x.gate(0, 7, ~4, 4, ~4), 5);
        due("3: circuit 1 has inputs alone", x.gate(1, 0, 2, 0, 0), NONE);
        due("3: its last input", x.gate(1, 0, 1, ~1, 0), 2);
    }

    /** 3: "or 120 are"; Terms: "GATES, at most 120 a circuit". */
    private static void gatesFull() {
        for (int circuit = 0; circuit < 2; circuit++) {
            SweepBench x = bench(2);
            for (int g = 0; g < Bounds.MAX_GATES; g++) {
                due("3: gate " + g, x.gate(circuit, 8, 0, 0, 0), 2 + g);
            }
            x.sweep();
            for (int kind = 0; kind < 9; kind++) {
                due("3: one more of kind " + kind, x.gate(circuit, kind, 0, 1, 0), NONE);
            }
            due("3: none came", x.count(2 + circuit), Bounds.MAX_GATES);
            due("3: none came", x.count(0), 3);
            due("3: no signal 122", x.literal(circuit, 122), NONE);
            due("3: signal 121", x.literal(circuit, 121), 0);
            due("3: nothing changed", x.told(3), 3);
            due("3: the other circuit has room", x.gate(1 - circuit, 0, 0, 1, 0), 2);
            due("5: clear", x.clear(circuit), Bounds.MAX_GATES);
            due("3: room again", x.gate(circuit, 0, 0, 1, 0), 2);
        }
    }

    /** 3: "or 120 are", of which a text told 119. */
    private static void gatesFullByRead() {
        StringBuilder text = new StringBuilder("aag 121 2 0 0 119\n2\n4\n");
        for (int j = 0; j < 119; j++) {
            text.append(2 * (j + 3)).append(" 2 4\n");
        }
        SweepBench x = bench(2);
        Check.put(x, text.toString());
        due("8: 119 ANDs", x.read(0), 0);
        due("3: the 120th", x.gate(0, 2, 0, 120, 0), 121);
        due("3: one more", x.gate(0, 2, 0, 1, 0), NONE);
        due("3: none came", x.count(2), 120);
    }

    /** 3: "none comes": what was refused does not count. */
    private static void refusedGatesTakeNoRoom() {
        SweepBench x = bench(1);
        for (int k = 0; k < 130; k++) {
            due("3: refused", x.gate(0, 0, 0, 1 + k, 0), NONE);
        }
        for (int g = 0; g < Bounds.MAX_GATES; g++) {
            due("3: taken", x.gate(0, g % 9, 0, g, ~g), 1 + g);
        }
        due("3: full", x.gate(0, 8, 0, 0, 0), NONE);
    }

    /** 4: "NONE likewise": no such circuit. */
    private static void outputNoSuchCircuit() {
        for (int circuit : Bounds.NO_CIRCUITS) {
            BOUNDS.refused("4: circuit " + circuit, x -> x.output(circuit, 0));
        }
    }

    /** 4: "NONE likewise": a SIGNAL that is not there, of the other circuit neither. */
    private static void outputSignalNotThere() {
        for (int s : notThere(4)) {
            BOUNDS.refused("4: signal " + s, x -> x.output(0, s));
        }
        for (int s : notThere(5)) {
            BOUNDS.refused("4: signal " + s, x -> x.output(1, s));
        }
    }

    /** 4, Terms: "OUTPUTS .. SIGNALS or contraries": the last that is there. */
    private static void outputLastSignal() {
        SweepBench x = bench(2);
        due("4: the last input", x.output(0, 1), 0);
        due("4: its contrary", x.output(0, ~1), 1);
        x.gate(0, 0, 0, 1, 0);
        due("4: the last gate", x.output(0, 2), 2);
        due("4: its contrary", x.output(0, ~2), 3);
        due("4: none in circuit 1", x.count(5), 0);
    }

    /** 4: "(10)"; Terms: "OUTPUTS, at most 10 a circuit". */
    private static void outputsFull() {
        for (int circuit = 0; circuit < 2; circuit++) {
            SweepBench x = bench(2);
            for (int i = 0; i < Bounds.MAX_OUTPUTS; i++) {
                due("4: output " + i, x.output(circuit, i % 2), i);
            }
            x.sweep();
            due("4: one more", x.output(circuit, 0), NONE);
            due("4: one more", x.output(circuit, ~1), NONE);
            due("4: none came", x.count(4 + circuit), Bounds.MAX_OUTPUTS);
            due("4: nothing changed", x.told(3), 3);
            due("4: the other circuit has room", x.output(1 - circuit, 0), 0);
            due("5: clear", x.clear(circuit), 0);
            due("4: room again", x.output(circuit, 0), 0);
        }
    }

    /** 4: "(10)", all told by a text. */
    private static void outputsFullByRead() {
        SweepBench x = bench(2);
        Check.put(x, "aag 2 2 0 9 0\n2\n4\n2\n2\n2\n2\n2\n2\n2\n2\n5\n");
        due("8: nine outputs", x.read(1), 0);
        due("4: the tenth", x.output(1, 0), 9);
        due("4: one more", x.output(1, 0), NONE);
        Check.put(x, "aag 2 2 0 10 0\n2\n4\n2\n2\n2\n2\n2\n2\n2\n2\n5\n4\n");
        due("8: ten outputs", x.read(1), 0);
        due("4: one more", x.output(1, 0), NONE);
        due("4: none came", x.count(5), 10);
    }

    /** 5: "NONE". */
    private static void clearNoSuchCircuit() {
        for (int circuit : Bounds.NO_CIRCUITS) {
            BOUNDS.refused("5: circuit " + circuit, x -> x.clear(circuit));
        }
    }

    /** 5: "how many GATES it had": none. */
    private static void clearEmpty() {
        SweepBench x = Bounds.rich();
        due("5: three gates", x.clear(1), 3);
        due("5: none", x.clear(1), 0);
        due("5: none", new SweepBench().clear(0), 0);
        due("5: circuit 0 has its own", x.clear(0), 2);
    }

    /** 5: "A circuit without GATES and OUTPUTS": it had OUTPUTS alone. */
    private static void clearOutputsAlone() {
        SweepBench x = bench(2);
        x.output(0, 0);
        x.output(0, 1);
        due("5: no gates", x.clear(0), 0);
        due("5: no outputs", x.count(4), 0);
        due("5: none as much as none", x.verdict(), 1);
    }

    /** 5: "how many GATES it had": all. */
    private static void clearFull() {
        for (int circuit = 0; circuit < 2; circuit++) {
            SweepBench x = bench(12);
            Bounds.fillWithFalse(x, circuit);
            Bounds.fillOutputs(x, circuit, ~131);
            due("5: all", x.clear(circuit), 120);
            due("5: no gates", x.count(2 + circuit), 0);
            due("5: no outputs", x.count(4 + circuit), 0);
            due("5: no signal", x.literal(circuit, 12), NONE);
            due("5: the last input", x.literal(circuit, 11), 24);
        }
    }

    /** 5: a circuit, and nothing else. */
    private static void clearLeavesTheRest() {
        SweepBench x = Bounds.rich();
        int vectors = x.count(6);
        due("5: circuit 0", x.clear(0), 2);
        due("5: gates of circuit 1", x.count(3), 3);
        due("5: outputs of circuit 1", x.count(5), 2);
        due("5: OR is the first node now", x.literal(1, 2), 7);
        due("5: vectors", x.count(6), vectors);
        due("5: the first vector", x.given(0), 3);
        due("5: the tape", x.count(8), Bounds.TEXT.length());
        due("5: place", x.place(), Bounds.RICH_PLACE);
        due("5: inputs", x.count(1), 2);
    }

    /** 6: "NONE, and none comes, if it would have more than 3000": 3000 are not more. */
    private static void feedUpToFull() {
        SweepBench x = new SweepBench();
        for (int k = 1; k <= 150; k++) {
            due("6: feed " + k, x.feed(LEAST, MOST, -1, 0, k), 20 * k);
        }
        due("6: full", x.feed(0, 0, 0, 0, 0), NONE);
        due("6: none came", x.count(8), 3000);
        due("7: one byte less", x.end(2999), 2999);
        due("6: too many by 19", x.feed(0, 0, 0, 0, 0), NONE);
    }

    private static SweepBench fedUpTo(int bytes) {
        SweepBench x = new SweepBench();
        for (int k = 0; k < 150; k++) {
            x.feed(0, 0, 0, 0, 0);
        }
        x.end(bytes);
        return x;
    }

    /** 6: "if it would have more than 3000": on both sides of it. */
    private static void feedOneTooMany() {
        SweepBench x = fedUpTo(2981);
        due("6: 3001", x.feed(1, 2, 3, 4, 5), NONE);
        due("6: none came", x.count(8), 2981);
        x = fedUpTo(2980);
        due("6: 3000", x.feed(1, 2, 3, 4, 5), 3000);
        x = fedUpTo(2979);
        due("6: 2999", x.feed(1, 2, 3, 4, 5), 2999);
        due("6: 3019", x.feed(1, 2, 3, 4, 5), NONE);
    }

    /** 6: "none comes": not a part of the twenty either. */
    private static void feedRefusedLeavesBytes() {
        SweepBench x = bench(2);
        Check.put(x, Bounds.TEXT);
        for (int k = 0; k < 148; k++) {
            x.feed(0, 0, 0, 0, 0);
        }
        due("6: 26 and 2960", x.count(8), 2986);
        due("6: no room", x.feed(0x78787878, 0x78787878, 0x78787878, 0x78787878, 0x78787878), NONE);
        due("6: none came", x.count(8), 2986);
        due("7: the text alone", x.end(26), 26);
        due("8: is as it was", x.read(0), 0);
    }

    /** 6: "of each number the highest first"; the highest bit is no sign. */
    private static void feedHighestFirst() {
        SweepBench x = bench(1);
        // "aag 1 1 0 1 0", 10, "2", 10, "2", 10.
        due("6: feed", x.feed(0x61616720, 0x31203120, 0x30203120, 0x300A320A, 0x320A0000), 20);
        due("7: end", x.end(18), 18);
        due("8: read", x.read(0), 0);
        int[] first = {0xE1616720, 0x20676161, 0x61E16720, 0x6161E720, 0x616167A0};
        int[] places = {0, 0, 1, 2, 3};
        for (int k = 0; k < first.length; k++) {
            x.feed(first[k], 0x31203120, 0x30203120, 0x300A320A, 0x320A0000);
            due("8: another byte", x.read(0), 1);
            due("9: the place of number " + k, x.place(), places[k]);
        }
    }

    /** 7: "The TAPE has its first n bytes alone: n": all that it has. */
    private static void endAll() {
        BOUNDS.refused("7: all, so nothing happens", Bounds.TEXT.length(), x -> x.end(Bounds.TEXT.length()));
        SweepBench x = fedUpTo(3000);
        due("7: all of a full tape", x.end(3000), 3000);
        due("7: it has them", x.count(8), 3000);
    }

    /** 7: "NONE, and nothing happens, if it has not so many". */
    private static void endTooMany() {
        int all = Bounds.TEXT.length();
        for (int n : new int[] {all + 1, all + 2, 40, 3000, 3001, MOST}) {
            BOUNDS.refused("7: end(" + n + ")", x -> x.end(n));
        }
        due("7: more than a full tape", fedUpTo(3000).end(3001), NONE);
        SweepBench x = fedUpTo(3000);
        due("7: cut", x.end(10), 10);
        due("7: what was cut is gone", x.end(11), NONE);
        due("7: cut again", x.end(9), 9);
    }

    /** 7: "or n is below 0". */
    private static void endBelowZero() {
        for (int n : new int[] {-1, -2, -26, LEAST, LEAST + 1}) {
            BOUNDS.refused("7: end(" + n + ")", x -> x.end(n));
        }
    }

    /** 7: the empty TAPE. */
    private static void endEmpty() {
        SweepBench x = Bounds.rich();
        due("7: none of them", x.end(0), 0);
        due("7: it is empty", x.count(8), 0);
        due("7: again", x.end(0), 0);
        due("7: it has not one", x.end(1), NONE);
        due("7: below it", x.end(-1), NONE);
        due("8: an empty text", x.read(0), 1);
        due("9: at its end", x.place(), 0);
    }

    /** 7: "its first n bytes alone": what is fed then comes behind these. */
    private static void endFirstAlone() {
        SweepBench x = bench(2);
        Check.put(x, Bounds.TEXT);
        due("7: up to the last line", x.end(20), 20);
        // "6 3 5", 10.
        due("6: another last line", x.feed(0x36203320, 0x350A0000, 0, 0, 0), 40);
        due("7: end", x.end(26), 26);
        due("8: read", x.read(0), 0);
        due("15: its sides", x.node(3, 0), 3);
        due("15: its sides", x.node(3, 1), 5);
    }
}
