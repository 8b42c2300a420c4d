/** Promises 10 to 16 and 20 to 22: each sentence that names a boundary has a test of its own, headed by its words. */
public final class BoundsOfAskingTest {
    private static final int NONE = Bounds.NONE;
    private static final int LEAST = Bounds.LEAST;
    private static final int MOST = Bounds.MOST;
    private static final int[] NO_OUTPUTS = {-1, -2, 10, 11, 256, LEAST, LEAST + 1, MOST};
    /** How many ways there are to hand an input to a gate: signal(). */
    private static final int WAYS = 5;
    private static final Bounds BOUNDS = new Bounds();

    public static void main(String[] args) {
        valueNoSuchCircuit();
        valueNoSuchSignal();
        valueNoSuchWord();
        valueOfTheLast();
        valueOfKinds();
        valueOfContraries();
        vectorNoSuchWord();
        vectorThereAlready();
        vectorFoundAlready();
        vectorsFull();
        forgetNone();
        forgetAll();
        givenNone();
        givenInOrder();
        countAnother();
        countLeast();
        countGroups();
        nodeNoSuchNode();
        nodeNoSuchWhat();
        nodeOfNoAnd();
        nodeFirstAnd();
        nodeLeastOfGroup();
        literalNoSuchCircuit();
        literalNoSuchSignal();
        literalOfFalse();
        literalOfContrary();
        andOfFalseAndContraries();
        andOfItselfAndTrue();
        andStandsOnce();
        graphIsMadeAnew();
        graphForgetsWhatStood();
        sameNoSuchOutput();
        sameOneHasNone();
        sameByItself();
        differsNoSuchOutput();
        differsNot();
        differsAtTheEdges();
        differsAtTheLeast();
        verdictWithoutOutputs();
        verdictNotAsMany();
        verdictByTheLast();
        BOUNDS.finish();
    }

    private static void due(String what, long got, long want) {
        BOUNDS.due(what, got, want);
    }

    private static SweepBench bench(int inputs) {
        return Bounds.bench(inputs);
    }

    /** 10: "NONE if there is none such": circuit. */
    private static void valueNoSuchCircuit() {
        for (int circuit : Bounds.NO_CIRCUITS) {
            BOUNDS.refused("10: circuit " + circuit, x -> x.value(circuit, 0, 0));
        }
    }

    private static int[] notThere(int signals) {
        return new int[] {signals, ~signals, signals + 1, ~(signals + 1), 132, ~132, 256, LEAST, LEAST + 1, MOST};
    }

    /** 10: "NONE if there is none such": SIGNAL, or contrary; circuit 0 has four, circuit 1 five. */
    private static void valueNoSuchSignal() {
        for (int s : notThere(4)) {
            BOUNDS.refused("10: signal " + s, x -> x.value(0, s, 0));
        }
        for (int s : notThere(5)) {
            BOUNDS.refused("10: signal " + s, x -> x.value(1, s, 0));
        }
    }

    /** 10: "NONE if there is none such": INPUT WORD. */
    private static void valueNoSuchWord() {
        for (int n = 1; n <= 12; n++) {
            SweepBench x = bench(n);
            for (int word : new int[] {1 << n, (1 << n) + 1, -1, 1 << 30, LEAST, MOST}) {
                due("10: word " + word + " of " + n, x.value(0, 0, word), NONE);
                due("10: word " + word + " of " + n, x.value(1, ~(n - 1), word), NONE);
            }
            due("10: word 0 of " + n, x.value(0, n - 1, 0), 0);
            due("10: the last word of " + n, x.value(0, n - 1, (1 << n) - 1), 1);
        }
    }

    /** 10: "The value of a SIGNAL, or contrary": the last that a full circuit has. */
    private static void valueOfTheLast() {
        for (int circuit = 0; circuit < 2; circuit++) {
            SweepBench x = bench(12);
            Bounds.fillWithFalse(x, circuit);
            due("10: signal 131", x.value(circuit, 131, 4095), 0);
            due("10: its contrary", x.value(circuit, ~131, 4095), 1);
            due("10: signal 132", x.value(circuit, 132, 4095), NONE);
            due("10: its contrary", x.value(circuit, ~132, 4095), NONE);
            due("10: the other circuit's", x.value(1 - circuit, 12, 0), NONE);
        }
    }

    /** Terms: the kinds of GATES, of one SIGNAL and its contrary, too. */
    private static void valueOfKinds() {
        SweepBench x = bench(1);
        int[] ofItself = {2, 2, 0, 1, 1, 3, 2, 2, 0};
        int[] withContrary = {0, 3, 3, 3, 0, 0, 0, 2, 0};
        for (int kind = 0; kind < 9; kind++) {
            int s = x.gate(0, kind, 0, 0, 0);
            int t = x.gate(0, kind, 0, ~0, 0);
            for (int word = 0; word < 2; word++) {
                due("10: kind " + kind + " of itself", x.value(0, s, word), ofItself[kind] >> word & 1);
                due("10: kind " + kind + " with its contrary", x.value(0, t, word), withContrary[kind] >> word & 1);
            }
        }
    }

    /** What a kind is, by the words of the terms. */
    private static boolean kindOf(int kind, boolean a, boolean b, boolean c) {
        switch (kind) {
            case 0: return a && b;
            case 1: return a || b;
            case 2: return a != b;
            case 3: return !(a && b);
            case 4: return !(a || b);
            case 5: return a == b;
            case 6: return a ? b : c;
            case 7: return a && b || a && c || b && c;
            default: return false;
        }
    }

    /** Terms: "~ s is the contrary of SIGNAL s": each kind of inputs, contraries and constants. */
    private static void valueOfContraries() {
        for (int kind = 0; kind < 9; kind++) {
            for (int how = 0; how < WAYS; how++) {
                valueOfContraries(kind, how);
            }
        }
    }

    private static void valueOfContraries(int kind, int third) {
        SweepBench x = bench(3);
        // NAND of an input with itself: a gate whose LITERAL is odd.
        for (int i = 0; i < 3; i++) {
            x.gate(0, 3, i, i, 0);
        }
        x.gate(0, 8, 0, 0, 0);
        for (int ways = 0; ways < WAYS * WAYS; ways++) {
            int first = ways % WAYS;
            int second = ways / WAYS;
            int s = x.gate(0, kind, signal(0, first), signal(1, second), signal(2, third));
            for (int word = 0; word < 8; word++) {
                boolean want = kindOf(kind, is(word, 0, first), is(word, 1, second), is(word, 2, third));
                String what = "10: kind " + kind + " of " + first + ", " + second + ", " + third;
                due(what, x.value(0, s, word), want ? 1 : 0);
            }
        }
    }

    /** Input i itself, its contrary, the gate that is its contrary, false, or true. */
    private static int signal(int i, int way) {
        int[] signals = {i, ~i, 3 + i, 6, ~6};
        return signals[way];
    }

    private static boolean is(int word, int i, int way) {
        boolean input = (word >> i & 1) == 1;
        return way == 0 ? input : way < 3 ? !input : way == 4;
    }

    /** 11: "NONE, and none comes, if it is no INPUT WORD". */
    private static void vectorNoSuchWord() {
        for (int word : new int[] {4, 5, -1, -4, 256, 1 << 16, LEAST, LEAST + 1, MOST}) {
            BOUNDS.refused("11: word " + word, x -> x.vector(word));
        }
        for (int n = 1; n <= 12; n++) {
            SweepBench x = bench(n);
            due("11: too large for " + n, x.vector(1 << n), NONE);
            due("11: too small for " + n, x.vector(-1), NONE);
            due("11: the largest of " + n, x.vector((1 << n) - 1), 1);
            due("11: the smallest of " + n, x.vector(0), 2);
            due("13: the largest", x.given(0), (1 << n) - 1);
            due("13: the smallest", x.given(1), 0);
        }
    }

    /** 11: "or there already": told. */
    private static void vectorThereAlready() {
        BOUNDS.refused("11: told", x -> x.vector(3));
        SweepBench x = bench(7);
        int[] words = {0, 63, 64, 127};
        for (int k = 0; k < words.length; k++) {
            due("11: once", x.vector(words[k]), k + 1);
            due("11: twice", x.vector(words[k]), NONE);
        }
        for (int word : words) {
            due("11: each once", x.vector(word), NONE);
        }
        due("11: none came", x.count(6), 4);
    }

    /** 11, Terms: "VECTORS: INPUT WORDS, told, and found; .. each once". */
    private static void vectorFoundAlready() {
        SweepBench x = bench(2);
        x.sweep();
        due("17: found", x.count(6), 3);
        for (int word = 0; word < 3; word++) {
            due("11: found already", x.vector(word), NONE);
        }
        due("11: not found", x.vector(3), 4);
        due("13: behind those found", x.given(3), 3);
        BOUNDS.refused("11: found already", y -> y.vector(y.given(y.count(6) - 1)));
    }

    /** Terms: "at most 4096, each once"; as many as 512 calls may tell. */
    private static void vectorsFull() {
        for (int n = 1; n <= 8; n++) {
            SweepBench x = bench(n);
            int all = 1 << n;
            for (int k = 0; k < all; k++) {
                due("11: one more", x.vector(all - 1 - k), k + 1);
            }
            due("11: full", x.vector(0), NONE);
            due("11: full", x.vector(all - 1), NONE);
            due("11: full, and too large", x.vector(all), NONE);
            due("14: all", x.count(6), all);
            due("13: the last", x.given(all - 1), 0);
            due("13: behind it", x.given(all), NONE);
            due("14: each node alone", x.count(7), n + 1);
            due("17: nothing to find", x.sweep(), 0);
            due("14: all", x.count(6), all);
            due("12: all are gone", x.forget(), all);
            due("11: the first anew", x.vector(0), 1);
        }
    }

    /** 12: "how many there were": none. */
    private static void forgetNone() {
        SweepBench x = new SweepBench();
        due("12: none", x.forget(), 0);
        due("12: none again", x.forget(), 0);
        due("14: none", x.count(6), 0);
    }

    /** 12: "All VECTORS are gone", found ones too; nothing else is. */
    private static void forgetAll() {
        SweepBench x = Bounds.rich();
        int all = x.count(6);
        due("12: told and found", all, 1 + x.told(0));
        due("12: all", x.forget(), all);
        due("14: none", x.count(6), 0);
        due("13: given(0)", x.given(0), NONE);
        due("14: one group", x.count(7), 1);
        due("15: its least node", x.node(x.count(0) - 1, 2), 0);
        due("12: none are left", x.forget(), 0);
        due("14: gates stay", x.count(2) + x.count(3), 5);
        due("14: outputs stay", x.count(4) + x.count(5), 4);
        due("18: the sweep stays", x.swept(1), 2);
        due("11: each may come again", x.vector(3), 1);
    }

    /** 13: "NONE". */
    private static void givenNone() {
        for (int k : new int[] {-1, 5, 4096, 4097, LEAST, MOST}) {
            BOUNDS.refused("13: given(" + k + ")", x -> x.given(k));
        }
        BOUNDS.refused("13: behind the last", x -> x.given(x.count(6)));
        due("13: without any", new SweepBench().given(0), NONE);
    }

    /** 13: "VECTOR k, in the order they came": told ones and found ones. */
    private static void givenInOrder() {
        SweepBench x = bench(2);
        x.vector(2);
        x.sweep();
        x.vector(3);
        // By 2 input 0 is LIKE false, parted by 1; input 1 is LIKE neither: 01 and 10 are contrary, parted by 0.
        int[] words = {2, 1, 0, 3};
        for (int k = 0; k < words.length; k++) {
            due("13: given(" + k + ")", x.given(k), words[k]);
        }
    }

    /** 14: "NONE for another what". */
    private static void countAnother() {
        for (int what : new int[] {-1, 9, 10, 256, LEAST, LEAST + 1, MOST}) {
            BOUNDS.refused("14: count(" + what + ")", x -> x.count(what));
        }
    }

    /** 14: "nodes of the graph (node 0 and inputs, too)", and the others, of the least bench. */
    private static void countLeast() {
        SweepBench x = bench(1);
        int[] counts = {2, 1, 0, 0, 0, 0, 0, 1, 0};
        for (int what = 0; what < counts.length; what++) {
            due("14: count(" + what + ")", x.count(what), counts[what]);
        }
        x.gate(0, 8, 0, 0, 0);
        x.gate(0, 0, 0, 0, 0);
        due("14: FALSE and what is there make no node", x.count(0), 2);
    }

    /** 14: "GROUPS of all nodes (0 too) by them"; Terms: "without VECTORS all are". */
    private static void countGroups() {
        SweepBench x = bench(2);
        due("14: without vectors", x.count(7), 1);
        x.vector(0);
        due("14: one vector leaves one", x.count(7), 1);
        x.vector(1);
        // 00, 01, 00.
        due("14: input 0 apart", x.count(7), 2);
        x.vector(2);
        due("14: node 0 alone, too", x.count(7), 3);
        x.gate(0, 4, 0, 1, 0);
        // 100: its own; of word 3 the same.
        due("14: a node more", x.count(7), 4);
        x.vector(3);
        x.gate(0, 1, 0, 1, 0);
        due("14: the contrary is LIKE", x.count(7), 4);
        x.forget();
        due("14: without vectors again", x.count(7), 1);
    }

    /** 15: "NONE if there is none such": node. */
    private static void nodeNoSuchNode() {
        for (int k : new int[] {-1, -2, 972, 973, 974, 1 << 30, LEAST, LEAST + 1, MOST}) {
            for (int what = 0; what < 3; what++) {
                int w = what;
                BOUNDS.refused("15: node(" + k + ", " + w + ")", x -> x.node(k, w));
            }
        }
        for (int what = 0; what < 3; what++) {
            int w = what;
            BOUNDS.refused("15: behind the last", x -> x.node(x.count(0), w));
        }
    }

    /** 15: "NONE if there is none such": what. */
    private static void nodeNoSuchWhat() {
        for (int what : new int[] {-1, 3, 4, 256, LEAST, LEAST + 1, MOST}) {
            BOUNDS.refused("15: of false, " + what, x -> x.node(0, what));
            BOUNDS.refused("15: of an input, " + what, x -> x.node(1, what));
            BOUNDS.refused("15: of an AND, " + what, x -> x.node(x.count(0) - 1, what));
        }
    }

    /** 15: "of 0, 1 of others, too": node 0 and the inputs are no ANDs. */
    private static void nodeOfNoAnd() {
        for (int n = 1; n <= 12; n++) {
            SweepBench x = bench(n);
            x.gate(0, 0, 0, ~(n - 1), 0);
            x.gate(0, 2, 0, n - 1, 0);
            for (int k = 0; k <= n; k++) {
                due("15: node(" + k + ", 0)", x.node(k, 0), NONE);
                due("15: node(" + k + ", 1)", x.node(k, 1), NONE);
                due("15: node(" + k + ", 2)", x.node(k, 2), 0);
            }
        }
    }

    /** 15: "Of node k (an AND)": the first one, behind the last input, and the last one. */
    private static void nodeFirstAnd() {
        for (int n = 2; n <= 12; n++) {
            SweepBench x = bench(n);
            x.gate(0, 0, ~(n - 1), 0, 0);
            due("15: the lesser literal first", x.node(n + 1, 0), 2);
            due("15: then the greater one", x.node(n + 1, 1), 2 * n + 1);
            due("15: it is the last", x.node(n + 2, 0), NONE);
            x.gate(1, 0, 0, n - 1, 0);
            due("15: one more", x.node(n + 2, 0), 2);
            due("15: one more", x.node(n + 2, 1), 2 * n);
            due("15: it is the last", x.node(n + 3, 1), NONE);
        }
    }

    /** 15: "the least node of its GROUP": itself, or one below it, contrary or not. */
    private static void nodeLeastOfGroup() {
        SweepBench x = bench(2);
        x.gate(0, 4, 0, 1, 0);
        x.gate(0, 0, 0, 1, 0);
        // Signs for 1, 2: false 00, inputs 10 and 01, NOR 00, AND 00.
        x.vector(1);
        x.vector(2);
        int[] least = {0, 1, 1, 0, 0};
        for (int k = 0; k < least.length; k++) {
            due("15: node " + k, x.node(k, 2), least[k]);
        }
        // 000, 101, 011, 000, 001.
        x.vector(3);
        int[] parted = {0, 1, 2, 0, 4};
        for (int k = 0; k < parted.length; k++) {
            due("15: node " + k, x.node(k, 2), parted[k]);
        }
        // Input 2 was the least of a group; by 0 and 5 it is LIKE input 0, which is less.
        SweepBench y = bench(3);
        y.vector(0);
        y.vector(4);
        due("15: input 2 is apart", y.node(3, 2), 3);
        y.forget();
        y.vector(0);
        y.vector(5);
        due("15: input 2 is LIKE input 0", y.node(3, 2), 1);
        due("15: input 0 is the least", y.node(1, 2), 1);
    }

    /** 16: "NONE if there is none such": circuit. */
    private static void literalNoSuchCircuit() {
        for (int circuit : Bounds.NO_CIRCUITS) {
            BOUNDS.refused("16: circuit " + circuit, x -> x.literal(circuit, 0));
        }
    }

    /** 16: "NONE if there is none such": SIGNAL, or contrary. */
    private static void literalNoSuchSignal() {
        for (int s : notThere(4)) {
            BOUNDS.refused("16: signal " + s, x -> x.literal(0, s));
        }
        for (int s : notThere(5)) {
            BOUNDS.refused("16: signal " + s, x -> x.literal(1, s));
        }
    }

    /** Terms: "NODE 0 is false": LITERALS 0 and 1, which are not NONE. */
    private static void literalOfFalse() {
        SweepBench x = bench(12);
        int s = x.gate(1, 8, 0, 0, 0);
        due("16: false", x.literal(1, s), 0);
        due("16: true", x.literal(1, ~s), 1);
        due("10: false", x.value(1, s, 4095), 0);
        due("10: true", x.value(1, ~s, 0), 1);
    }

    /** 16: "The LITERAL of a SIGNAL, or contrary": of a gate that is a contrary itself. */
    private static void literalOfContrary() {
        int[] literals = {6, 7, 7, 7, 6, 6};
        for (int kind = 0; kind < 6; kind++) {
            SweepBench x = bench(2);
            int s = x.gate(0, kind, 0, 1, 0);
            int top = 2 * (x.count(0) - 1);
            due("16: kind " + kind, x.literal(0, s), top + literals[kind] % 2);
            due("16: its contrary", x.literal(0, ~s), top + 1 - literals[kind] % 2);
        }
    }

    /** What AND(p, q) is, in a bench of two inputs whose SIGNAL 2 is false. */
    private static void and(int p, int q, int want) {
        SweepBench x = bench(2);
        x.gate(0, 8, 0, 0, 0);
        int s = x.gate(0, 0, p, q, 0);
        due("16: " + p + " & " + q, x.literal(0, s), want);
        due("14: " + p + " & " + q + " makes no node", x.count(0), 3);
    }

    /** Terms: "0 if one is 0, or one is the other's contrary". */
    private static void andOfFalseAndContraries() {
        for (int s : new int[] {0, ~0, 1, ~1, 2, ~2}) {
            and(s, 2, 0);
            and(2, s, 0);
            and(s, ~s, 0);
        }
    }

    /** Terms: "p if q is p or 1; q if p is 1". */
    private static void andOfItselfAndTrue() {
        int[] signals = {0, ~0, 1, ~1, 2, ~2};
        int[] literals = {2, 3, 4, 5, 0, 1};
        for (int k = 0; k < signals.length; k++) {
            and(signals[k], signals[k], literals[k]);
            and(signals[k], ~2, literals[k]);
            and(~2, signals[k], literals[k]);
        }
    }

    /** Terms: "else the node that has these two, and if there is none, a new one". */
    private static void andStandsOnce() {
        SweepBench x = bench(2);
        int[][] sides = {{0, 1}, {0, ~1}, {~0, 1}, {~0, ~1}};
        for (int k = 0; k < sides.length; k++) {
            int s = x.gate(0, 0, sides[k][0], sides[k][1], 0);
            due("16: a new one", x.literal(0, s), 6 + 2 * k);
        }
        for (int k = 0; k < sides.length; k++) {
            for (int circuit = 0; circuit < 2; circuit++) {
                int s = x.gate(circuit, 0, sides[k][1], sides[k][0], 0);
                due("16: the one that is there", x.literal(circuit, s), 6 + 2 * k);
            }
        }
        due("14: four", x.count(0), 7);
    }

    /** Terms: "It is made anew each time a circuit has changed". */
    private static void graphIsMadeAnew() {
        SweepBench x = bench(2);
        x.gate(1, 0, 0, 1, 0);
        due("16: circuit 1 alone", x.literal(1, 2), 6);
        x.gate(0, 0, 0, ~1, 0);
        due("16: circuit 0 comes ahead of it", x.literal(1, 2), 8);
        x.gate(0, 0, ~0, ~1, 0);
        due("16: and again", x.literal(1, 2), 10);
        x.clear(0);
        due("16: circuit 1 alone again", x.literal(1, 2), 6);
        due("14: what circuit 0 made is gone", x.count(0), 4);
        Check.put(x, "aag 3 2 0 0 1\n2\n4\n6 3 5\n");
        x.read(0);
        due("16: a text comes ahead, too", x.literal(1, 2), 8);
        x.clear(1);
        due("14: the text's alone", x.count(0), 4);
        x.inputs(3);
        due("14: none", x.count(0), 4);
        due("15: node 3 is an input", x.node(3, 0), NONE);
    }

    /** Terms: "made anew": an AND of nodes that stood in a graph before is made once more, in its new place. */
    private static void graphForgetsWhatStood() {
        SweepBench x = bench(3);
        for (int round = 0; round < 6; round++) {
            int a = round % 3;
            int b = (round + 1) % 3;
            x.gate(0, 0, a, b, 0);
            x.gate(0, 0, 3, ~a, 0);
            x.gate(0, 0, 4, ~b, 0);
            x.gate(0, 0, ~4, ~5, 0);
            due("14: nodes of round " + round, x.count(0), 8);
            for (int g = 0; g < 4; g++) {
                due("16: gate " + g + " of round " + round, x.literal(0, 3 + g), 8 + 2 * g);
            }
            due("15: the first AND", x.node(4, 0), 2 + 2 * Math.min(a, b));
            due("15: the first AND", x.node(4, 1), 2 + 2 * Math.max(a, b));
            x.clear(0);
            due("14: inputs alone", x.count(0), 4);
        }
        // Nodes 4 and 5, then their AND: node 7 with another one in between, node 6 without.
        int[][] between = {{~0, ~2}, {0, 0}, {~0, ~2}};
        for (int[] sides : between) {
            x.gate(0, 0, 0, 1, 0);
            x.gate(0, 0, 1, 2, 0);
            x.gate(0, 0, sides[0], sides[1], 0);
            x.gate(0, 0, 3, 4, 0);
            due("16: the AND of both", x.literal(0, 6), sides[0] == 0 ? 12 : 14);
            due("15: its lesser side", x.node(x.count(0) - 1, 0), 8);
            x.clear(0);
        }
    }

    /** 20: "NONE if one has none such": neither has. */
    private static void sameNoSuchOutput() {
        for (int i : NO_OUTPUTS) {
            BOUNDS.refused("20: same(" + i + ")", x -> x.same(i));
        }
        BOUNDS.refused("20: behind the last", x -> x.same(2));
        SweepBench full = bench(1);
        Bounds.fillOutputs(full, 0, 0);
        Bounds.fillOutputs(full, 1, 0);
        due("20: the tenth", full.same(9), 1);
        due("20: no eleventh", full.same(10), NONE);
        due("21: no eleventh", full.differs(10), NONE);
    }

    /** 20: "NONE if one has none such": one has. */
    private static void sameOneHasNone() {
        for (int circuit = 0; circuit < 2; circuit++) {
            SweepBench x = bench(1);
            x.output(circuit, 0);
            due("20: one has it", x.same(0), NONE);
            due("21: one has it", x.differs(0), NONE);
            x.output(1 - circuit, 0);
            due("20: both have it", x.same(0), 1);
            Bounds.fillOutputs(x, circuit, 0);
            for (int i = 1; i < 10; i++) {
                due("20: one has it", x.same(i), NONE);
                due("21: one has it", x.differs(i), NONE);
            }
        }
    }

    /** 20: "(This asks by itself; no VECTOR comes.)". */
    private static void sameByItself() {
        BOUNDS.refused("20: nothing happens", 1, x -> x.same(0));
        BOUNDS.refused("20: nothing happens", 0, x -> x.same(1));
        SweepBench x = bench(12);
        x.output(0, Bounds.andOfAll(x, 0));
        x.gate(1, 8, 0, 0, 0);
        x.output(1, 12);
        // By these two all are LIKE: the question does not ask them.
        x.vector(0);
        x.vector(1);
        due("20: not the same", x.same(0), 0);
        due("14: no vector comes", x.count(6), 2);
        due("19: no sweep either", x.told(0), NONE);
    }

    /** 21: "NONE .. or there are none such". */
    private static void differsNoSuchOutput() {
        for (int i : NO_OUTPUTS) {
            BOUNDS.refused("21: differs(" + i + ")", x -> x.differs(i));
        }
        BOUNDS.refused("21: behind the last", x -> x.differs(2));
        due("21: none at all", new SweepBench().differs(0), NONE);
    }

    /** 21: "NONE if they are", by other ANDs, too. */
    private static void differsNot() {
        BOUNDS.refused("21: the same by other ANDs", x -> x.differs(0));
        for (int n = 1; n <= 12; n++) {
            SweepBench x = bench(n);
            x.output(0, Bounds.andOfAll(x, 0));
            x.output(1, Bounds.andOfAll(x, 1));
            due("21: the same of " + n, x.differs(0), NONE);
            due("20: the same of " + n, x.same(0), 1);
        }
    }

    /** 21: "The least INPUT WORD": 0, which is not NONE, and the last one. */
    private static void differsAtTheEdges() {
        for (int n = 1; n <= 12; n++) {
            SweepBench x = bench(n);
            int all = Bounds.andOfAll(x, 0);
            int none = x.gate(1, 8, 0, 0, 0);
            x.output(0, all);
            x.output(1, none);
            x.output(0, ~all);
            x.output(1, none);
            due("21: the last word of " + n, x.differs(0), (1 << n) - 1);
            due("20: not the same", x.same(0), 0);
            due("21: word 0 of " + n, x.differs(1), 0);
            due("20: not the same", x.same(1), 0);
        }
    }

    /** 21: "The least INPUT WORD", of many: each input against false. */
    private static void differsAtTheLeast() {
        for (int i = 0; i < 12; i++) {
            SweepBench x = bench(12);
            x.output(0, i);
            x.gate(1, 8, 0, 0, 0);
            x.output(1, 12);
            due("21: input " + i, x.differs(0), 1 << i);
        }
        BOUNDS.refused("21: nothing happens", 0, x -> x.differs(1));
    }

    /** 22: "1 both have as many OUTPUTS, all the same": none. */
    private static void verdictWithoutOutputs() {
        SweepBench x = bench(2);
        due("22: without gates", x.verdict(), 1);
        x.gate(0, 0, 0, 1, 0);
        due("22: with a gate that no output has", x.verdict(), 1);
        due("22: no vector comes", x.count(6), 0);
    }

    /** 22: "NONE not as many": none against one, nine against ten, the same ones or not. */
    private static void verdictNotAsMany() {
        for (int circuit = 0; circuit < 2; circuit++) {
            SweepBench x = bench(1);
            for (int i = 0; i < Bounds.MAX_OUTPUTS; i++) {
                x.output(circuit, 0);
                due("22: one more", x.verdict(), NONE);
                x.output(1 - circuit, 0);
                due("22: as many", x.verdict(), 1);
            }
            x.clear(circuit);
            due("22: ten against none", x.verdict(), NONE);
            x.output(circuit, ~0);
            due("22: ten against one that is not the same", x.verdict(), NONE);
        }
    }

    /** 22: "0 as many, but one is not": the first, one in between, the last. */
    private static void verdictByTheLast() {
        for (int odd = 0; odd < Bounds.MAX_OUTPUTS; odd++) {
            SweepBench x = bench(12);
            int all = Bounds.andOfAll(x, 0);
            for (int i = 0; i < Bounds.MAX_OUTPUTS; i++) {
                x.output(0, i == odd ? all : 3);
                x.output(1, i == odd ? x.gate(1, 8, 0, 0, 0) : 3);
            }
            due("22: all but " + odd, x.verdict(), 0);
            due("20: that one", x.same(odd), 0);
            due("20: another one", x.same((odd + 1) % 10), 1);
        }
        SweepBench same = bench(12);
        Bounds.fillOutputs(same, 0, ~11);
        Bounds.fillOutputs(same, 1, ~11);
        due("22: ten, all the same", same.verdict(), 1);
        BOUNDS.refused("22: nothing happens", 0, x -> x.verdict());
    }
}
