/** Each promise by hand: ordinary inputs, the edges that the document names, and wrong inputs. */
public final class PromisesTest {
    private static final int NONE = SweepBench.NONE;
    private static final int LEAST = Integer.MIN_VALUE;
    private static final int MOST = Integer.MAX_VALUE;
    private static final Check CHECK = new Check();

    public static void main(String[] args) {
        newObject();
        inputs();
        gate();
        gateLimit();
        output();
        clear();
        feedAndEnd();
        value();
        vectors();
        fullVectors();
        count();
        groups();
        graphRules();
        graphOrder();
        literal();
        sweepOfInputs();
        sweepMerges();
        sweepWithVectors();
        sweepIsForgotten();
        sweepStays();
        sameAndDiffers();
        verdict();
        CHECK.finish();
    }

    private static void due(String what, long got, long want) {
        CHECK.due(what, got, want);
    }

    private static void due(String what, boolean got, boolean want) {
        CHECK.due(what, got, want);
    }

    private static SweepBench bench(int inputs) {
        SweepBench x = new SweepBench();
        x.inputs(inputs);
        return x;
    }

    private static void newObject() {
        SweepBench x = new SweepBench();
        int[] counts = {5, 4, 0, 0, 0, 0, 0, 1, 0};
        for (int what = 0; what < counts.length; what++) {
            due("1: new count(" + what + ")", x.count(what), counts[what]);
        }
        due("1: place()", x.place(), NONE);
        due("1: told(0)", x.told(0), NONE);
        due("1: swept(0)", x.swept(0), NONE);
        due("1: verdict()", x.verdict(), 1);
        due("1: forget()", x.forget(), 0);
        due("1: end(0)", x.end(0), 0);
        due("1: NONE", SweepBench.NONE, -1);
    }

    private static void inputs() {
        SweepBench x = new SweepBench();
        for (int n = 1; n <= 12; n++) {
            due("2: inputs(" + n + ")", x.inputs(n), true);
            due("2: count(1)", x.count(1), n);
            due("2: count(0)", x.count(0), n + 1);
        }
        x.inputs(3);
        x.gate(0, 0, 0, 1, 0);
        x.gate(1, 0, 0, 1, 0);
        x.output(0, 3);
        x.output(1, 3);
        x.vector(5);
        x.feed(1, 2, 3, 4, 5);
        for (int n : new int[] {0, 13, -1, LEAST, MOST}) {
            due("2: inputs(" + n + ")", x.inputs(n), false);
        }
        int[] kept = {5, 3, 1, 1, 1, 1, 1, 1, 20};
        for (int what = 0; what < kept.length; what++) {
            due("2: kept count(" + what + ")", x.count(what), kept[what]);
        }
        due("2: inputs(3) anew", x.inputs(3), true);
        int[] gone = {4, 3, 0, 0, 0, 0, 0, 1, 20};
        for (int what = 0; what < gone.length; what++) {
            due("2: gone count(" + what + ")", x.count(what), gone[what]);
        }
        due("2: given(0)", x.given(0), NONE);
        due("2: the word may come again", x.vector(5), 1);
    }

    private static void gate() {
        SweepBench x = bench(3);
        due("3: first", x.gate(0, 0, 0, 2, 99), 3);
        due("3: second", x.gate(0, 2, ~3, ~2, LEAST), 4);
        due("3: the other circuit", x.gate(1, 0, 0, 2, 0), 3);
        due("3: c not there", x.gate(0, 6, 0, 1, 5), NONE);
        due("3: c's contrary not there", x.gate(0, 7, 0, 1, ~5), NONE);
        due("3: c there", x.gate(0, 7, 0, 1, ~4), 5);
        due("3: FALSE takes nothing", x.gate(0, 8, LEAST, MOST, 77), 6);
        for (int kind = 0; kind < 8; kind++) {
            due("3: a not there, kind " + kind, x.gate(0, kind, 7, 0, 0), NONE);
            due("3: b not there, kind " + kind, x.gate(0, kind, 0, 7, 0), NONE);
            due("3: ~a not there, kind " + kind, x.gate(0, kind, ~7, 0, 0), NONE);
            due("3: b least, kind " + kind, x.gate(0, kind, 0, LEAST, 0), NONE);
            due("3: a most, kind " + kind, x.gate(0, kind, MOST, 0, 0), NONE);
        }
        due("3: kind 9", x.gate(0, 9, 0, 0, 0), NONE);
        due("3: kind -1", x.gate(0, -1, 0, 0, 0), NONE);
        due("3: circuit 2", x.gate(2, 0, 0, 0, 0), NONE);
        due("3: circuit -1", x.gate(-1, 0, 0, 0, 0), NONE);
        due("3: signals of the other circuit are not there", x.gate(1, 0, 4, 0, 0), NONE);
        due("3: none came", x.count(2), 4);
        due("3: none came", x.count(3), 1);
    }

    private static void gateLimit() {
        SweepBench x = bench(12);
        for (int g = 0; g < 120; g++) {
            due("3: gate " + g, x.gate(1, g % 8, g, ~(g + 1), g / 2), 12 + g);
        }
        due("3: 120 are", x.gate(1, 0, 0, 1, 0), NONE);
        due("3: 120 are", x.gate(1, 8, 0, 0, 0), NONE);
        due("3: circuit 0 has room", x.gate(0, 0, 0, 1, 0), 12);
        due("3: count", x.count(3), 120);
    }

    private static void output() {
        SweepBench x = bench(2);
        x.gate(0, 0, 0, 1, 0);
        due("4: s 3", x.output(0, 3), NONE);
        due("4: s ~3", x.output(0, ~3), NONE);
        due("4: s least", x.output(0, LEAST), NONE);
        due("4: s most", x.output(0, MOST), NONE);
        due("4: circuit 2", x.output(2, 0), NONE);
        due("4: circuit -1", x.output(-1, 0), NONE);
        due("4: none came", x.count(4), 0);
        for (int i = 0; i < 10; i++) {
            due("4: output " + i, x.output(0, i % 2 == 0 ? i % 3 : ~(i % 3)), i);
        }
        due("4: 10 are", x.output(0, 0), NONE);
        due("4: count", x.count(4), 10);
        due("4: the other has room", x.output(1, ~1), 0);
        due("4: no gate there", x.output(1, 2), NONE);
    }

    private static void clear() {
        SweepBench x = bench(2);
        x.gate(0, 0, 0, 1, 0);
        x.gate(0, 1, 0, 1, 0);
        x.gate(1, 2, 0, 1, 0);
        x.output(0, 2);
        x.output(1, 2);
        x.vector(3);
        due("5: circuit 2", x.clear(2), NONE);
        due("5: circuit -1", x.clear(-1), NONE);
        due("5: clear(0)", x.clear(0), 2);
        int[] counts = {6, 2, 0, 1, 0, 1, 1, 1, 0};
        for (int what = 0; what < counts.length; what++) {
            due("5: count(" + what + ")", x.count(what), counts[what]);
        }
        due("5: again", x.clear(0), 0);
        due("5: nodes moved", x.literal(1, 2), 11);
        due("5: from n on anew", x.gate(0, 3, 0, 1, 0), 2);
        due("5: clear(1)", x.clear(1), 1);
        due("5: count(0)", x.count(0), 4);
    }

    private static void feedAndEnd() {
        SweepBench x = new SweepBench();
        for (int k = 1; k <= 150; k++) {
            due("6: feed " + k, x.feed(k, k, k, k, k), 20 * k);
        }
        due("6: full", x.feed(0, 0, 0, 0, 0), NONE);
        due("6: none came", x.count(8), 3000);
        due("7: end(3001)", x.end(3001), NONE);
        due("7: end(3000)", x.end(3000), 3000);
        due("7: end(2981)", x.end(2981), 2981);
        due("6: one byte too many", x.feed(0, 0, 0, 0, 0), NONE);
        due("7: end(2980)", x.end(2980), 2980);
        due("6: just enough", x.feed(0, 0, 0, 0, 0), 3000);
        due("7: end(-1)", x.end(-1), NONE);
        due("7: end(least)", x.end(LEAST), NONE);
        due("7: end(most)", x.end(MOST), NONE);
        due("7: nothing happened", x.count(8), 3000);
        due("7: end(7)", x.end(7), 7);
        due("7: end(8)", x.end(8), NONE);
        due("6: behind the seven", x.feed(1, 1, 1, 1, 1), 27);
        due("7: end(0)", x.end(0), 0);
        due("7: count(8)", x.count(8), 0);
    }

    private static void value() {
        // Bit (a + 2 b + 4 c) of each number: the kind's value.
        int[] tables = {0x88, 0xEE, 0x66, 0x77, 0x11, 0x99, 0xD8, 0xE8, 0x00};
        SweepBench x = bench(3);
        for (int kind = 0; kind < 9; kind++) {
            int s = x.gate(0, kind, 0, 1, 2);
            for (int word = 0; word < 8; word++) {
                int want = tables[kind] >> word & 1;
                due("10: kind " + kind + ", word " + word, x.value(0, s, word), want);
                due("10: its contrary", x.value(0, ~s, word), 1 - want);
            }
        }
        due("10: input 2", x.value(1, 2, 4), 1);
        due("10: ~input 2", x.value(1, ~2, 4), 0);
        due("10: word 8", x.value(0, 0, 8), NONE);
        due("10: word -1", x.value(0, 0, -1), NONE);
        due("10: no such signal", x.value(0, 12, 0), NONE);
        due("10: no such signal", x.value(1, 3, 0), NONE);
        due("10: no such contrary", x.value(0, ~12, 0), NONE);
        due("10: least", x.value(0, LEAST, 0), NONE);
        due("10: circuit 2", x.value(2, 0, 0), NONE);
        due("10: circuit -1", x.value(-1, 0, 0), NONE);
        SweepBench y = bench(12);
        int all = y.gate(0, 0, 0, 1, 0);
        for (int i = 2; i < 12; i++) {
            all = y.gate(0, 0, all, i, 0);
        }
        due("10: all of twelve", y.value(0, all, 4095), 1);
        due("10: all but the last", y.value(0, all, 2047), 0);
        due("10: word 4096", y.value(0, all, 4096), NONE);
        for (int i = 0; i < 12; i++) {
            due("10: input alone", y.value(0, i, 1 << i), 1);
            due("10: all but the input", y.value(0, i, 4095 ^ 1 << i), 0);
        }
    }

    private static void vectors() {
        SweepBench x = bench(2);
        due("11: 3", x.vector(3), 1);
        due("11: 3 again", x.vector(3), NONE);
        due("11: 4", x.vector(4), NONE);
        due("11: -1", x.vector(-1), NONE);
        due("11: least", x.vector(LEAST), NONE);
        due("11: 0", x.vector(0), 2);
        due("11: 2", x.vector(2), 3);
        due("13: given(0)", x.given(0), 3);
        due("13: given(1)", x.given(1), 0);
        due("13: given(2)", x.given(2), 2);
        due("13: given(3)", x.given(3), NONE);
        due("13: given(-1)", x.given(-1), NONE);
        due("13: given(most)", x.given(MOST), NONE);
        due("12: forget()", x.forget(), 3);
        due("12: given(0)", x.given(0), NONE);
        due("12: again", x.forget(), 0);
        due("11: may come again", x.vector(3), 1);
        x.clear(0);
        due("11: they outlive clear", x.count(6), 1);
    }

    private static void fullVectors() {
        SweepBench x = bench(12);
        for (int word = 0; word < 4096; word++) {
            due("11: vector " + word, x.vector(4095 - word), word + 1);
        }
        for (int word = 0; word < 4096; word += 63) {
            due("11: all are there", x.vector(word), NONE);
        }
        due("13: the last", x.given(4095), 0);
        due("13: behind it", x.given(4096), NONE);
        due("14: groups by all", x.count(7), 13);
        due("17: nothing to find", x.sweep(), 0);
        due("19: found", x.told(0), 0);
        due("12: forget()", x.forget(), 4096);
    }

    private static void count() {
        SweepBench x = bench(3);
        x.gate(0, 0, 0, 1, 0);
        x.gate(0, 1, 0, 1, 0);
        x.gate(1, 0, 1, 0, 0);
        x.output(0, 0);
        x.output(1, 0);
        x.output(1, 1);
        x.vector(1);
        x.vector(2);
        x.feed(0, 0, 0, 0, 0);
        int[] counts = {6, 3, 2, 1, 1, 2, 2, 2, 20};
        for (int what = 0; what < counts.length; what++) {
            due("14: count(" + what + ")", x.count(what), counts[what]);
        }
        for (int what : new int[] {-1, 9, LEAST, MOST}) {
            due("14: count(" + what + ")", x.count(what), NONE);
        }
    }

    private static void groups() {
        SweepBench x = bench(3);
        x.gate(0, 0, 0, 1, 0);
        due("14: one group without vectors", x.count(7), 1);
        for (int k = 0; k < 5; k++) {
            due("15: the least", x.node(k, 2), 0);
        }
        x.vector(3);
        due("14: one vector parts nothing", x.count(7), 1);
        x.vector(1);
        // For words 3 and 1: 0 00, input 0 11, input 1 10, input 2 00, AND 10.
        int[] leasts = {0, 0, 2, 0, 2};
        for (int k = 0; k < 5; k++) {
            due("15: by 3 and 1, node " + k, x.node(k, 2), leasts[k]);
        }
        due("14: groups", x.count(7), 2);
        x.vector(6);
        // 000, 110, 101, 001, 100: node 3 is the contrary of node 1.
        int[] finer = {0, 1, 2, 1, 4};
        for (int k = 0; k < 5; k++) {
            due("15: by 6, too, node " + k, x.node(k, 2), finer[k]);
        }
        due("14: groups", x.count(7), 4);
        x.gate(1, 3, 0, 1, 0);
        due("14: the same node", x.count(7), 4);
        x.gate(1, 4, 0, 1, 0);
        // NOR: 000.
        due("15: a new one", x.node(5, 2), 0);
        x.forget();
        due("14: one again", x.count(7), 1);
        due("15: node 6", x.node(6, 2), NONE);
        due("15: node -1", x.node(-1, 2), NONE);
        due("15: what 3", x.node(4, 3), NONE);
        due("15: what -1", x.node(4, -1), NONE);
        due("15: an input's sides", x.node(3, 0), NONE);
        due("15: false's sides", x.node(0, 1), NONE);
        due("15: node most", x.node(MOST, 0), NONE);
        due("15: node least", x.node(LEAST, 2), NONE);
    }

    private static void graphRules() {
        SweepBench x = bench(2);
        int f = x.gate(0, 8, 0, 0, 0);
        int[][] rows = {
            {0, f, 0}, {f, 0, 0}, {0, ~0, 0}, {~0, 0, 0}, {0, 0, 2}, {~1, ~1, 5}, {1, ~f, 4}, {~f, 1, 4},
            {~f, ~f, 1}, {f, ~f, 0}, {f, f, 0}, {~f, f, 0}, {~0, ~f, 3},
        };
        for (int[] row : rows) {
            int s = x.gate(0, 0, row[0], row[1], 0);
            due("16: AND of " + row[0] + " and " + row[1], x.literal(0, s), row[2]);
        }
        due("14: no AND was made", x.count(0), 3);
        int s = x.gate(0, 0, 1, 0, 0);
        due("16: the first AND", x.literal(0, s), 6);
        due("15: the lesser first", x.node(3, 0), 2);
        due("15: the greater behind", x.node(3, 1), 4);
        int t = x.gate(0, 0, 0, 1, 0);
        due("16: none stands twice", x.literal(0, t), 6);
        int u = x.gate(1, 3, 0, 1, 0);
        due("16: nor in the other circuit", x.literal(1, u), 7);
        due("14: one AND", x.count(0), 4);
    }

    private static void sides(SweepBench x, int[][] wanted) {
        int n = x.count(1);
        due("14: nodes", x.count(0), n + 1 + wanted.length);
        for (int k = 0; k < wanted.length; k++) {
            due("15: node " + (n + 1 + k) + " left", x.node(n + 1 + k, 0), wanted[k][0]);
            due("15: node " + (n + 1 + k) + " right", x.node(n + 1 + k, 1), wanted[k][1]);
        }
    }

    private static void graphOrder() {
        SweepBench x = bench(3);
        x.gate(0, 2, 0, 1, 0);
        sides(x, new int[][] {{2, 5}, {3, 4}, {9, 11}});
        due("16: XOR", x.literal(0, 3), 13);
        x = bench(3);
        x.gate(0, 6, 0, 1, 2);
        sides(x, new int[][] {{2, 4}, {3, 6}, {9, 11}});
        due("16: MUX", x.literal(0, 3), 13);
        x = bench(3);
        x.gate(0, 7, 0, 1, 2);
        sides(x, new int[][] {{2, 4}, {3, 5}, {6, 11}, {9, 13}});
        due("16: MAJ", x.literal(0, 3), 15);
        x = bench(2);
        x.gate(1, 0, 0, 1, 0);
        due("16: circuit 1 alone", x.literal(1, 2), 6);
        due("15: its node", x.node(3, 0), 2);
        x.gate(0, 4, 0, 1, 0);
        due("16: circuit 0 goes ahead", x.literal(0, 2), 6);
        due("16: circuit 1 moves", x.literal(1, 2), 8);
        sides(x, new int[][] {{3, 5}, {2, 4}});
        x.gate(1, 0, 2, ~0, 0);
        due("16: more of circuit 1 behind", x.literal(1, 3), 10);
        sides(x, new int[][] {{3, 5}, {2, 4}, {3, 8}});
        x.gate(0, 5, 0, 1, 0);
        due("16: XNOR", x.literal(0, 3), 12);
        sides(x, new int[][] {{3, 5}, {2, 5}, {3, 4}, {9, 11}, {2, 4}, {3, 14}});
    }

    private static void literal() {
        SweepBench x = bench(2);
        x.gate(0, 1, 0, 1, 0);
        due("16: input 0", x.literal(0, 0), 2);
        due("16: ~ input 1", x.literal(1, ~1), 5);
        due("16: OR", x.literal(0, 2), 7);
        due("16: ~ OR", x.literal(0, ~2), 6);
        due("16: none such", x.literal(0, 3), NONE);
        due("16: none such", x.literal(0, ~3), NONE);
        due("16: none such", x.literal(1, 2), NONE);
        due("16: least", x.literal(0, LEAST), NONE);
        due("16: circuit 2", x.literal(2, 0), NONE);
        due("16: circuit -1", x.literal(-1, 0), NONE);
    }

    private static void told(SweepBench x, int found, int asked, int swept, int own) {
        due("19: told(0)", x.told(0), found);
        due("19: told(1)", x.told(1), asked);
        due("19: told(2)", x.told(2), swept);
        due("19: told(3)", x.told(3), own);
        due("19: told(4)", x.told(4), NONE);
        due("19: told(-1)", x.told(-1), NONE);
    }

    private static void sweepOfInputs() {
        SweepBench x = bench(2);
        due("14: one group", x.count(7), 1);
        due("17: sweep()", x.sweep(), 0);
        due("14: parted by what was found", x.count(7), 3);
        // Input 0 is asked twice: as false by no vector, then by word 1 as its contrary.
        told(x, 3, 3, 0, 3);
        int[] words = {1, 0, 2};
        for (int k = 0; k < 3; k++) {
            due("13: found " + k, x.given(k), words[k]);
        }
        due("14: they are vectors", x.count(6), 3);
        due("18: swept(0)", x.swept(0), 0);
        due("18: swept(2)", x.swept(2), 4);
        due("18: swept(3)", x.swept(3), NONE);
        due("18: swept(-1)", x.swept(-1), NONE);
        due("17: again", x.sweep(), 0);
        told(x, 0, 0, 0, 3);
    }

    /** XOR, and the same by OR and NAND: node 8 is node 5, and of its sides one was there already. */
    private static void sweepMerges() {
        SweepBench x = bench(2);
        x.gate(0, 2, 0, 1, 0);
        x.output(0, 2);
        x.gate(1, 1, 0, 1, 0);
        x.gate(1, 3, 0, 1, 0);
        x.gate(1, 0, 2, 3, 0);
        x.output(1, 4);
        sides(x, new int[][] {{2, 5}, {3, 4}, {7, 9}, {3, 5}, {2, 4}, {13, 15}});
        due("17: sweep()", x.sweep(), 1);
        due("18: XNOR is its own", x.swept(5), 10);
        due("18: XOR is its contrary", x.swept(8), 11);
        due("18: the others their own", x.swept(7), 14);
        // Word 3 parts node 6 .. node 7: 1, 0, 2 from the inputs; then 3.
        due("19: told(2)", x.told(2), 3);
        due("19: told(3)", x.told(3), 8);
        due("20: same(0)", x.same(0), 1);
        due("22: verdict()", x.verdict(), 1);
        due("4: an output that needs the rest", x.output(1, 2), 1);
        due("17: sweep()", x.sweep(), 1);
        due("19: told(2) with NOR", x.told(2), 4);
        x.output(1, 0);
        x.sweep();
        due("19: inputs are no ANDs", x.told(2), 4);
        x.output(0, ~3);
        due("19: no such output, so no change", x.told(2), 4);
    }

    private static void sweepWithVectors() {
        SweepBench x = bench(2);
        x.vector(3);
        due("17: sweep()", x.sweep(), 0);
        // By word 3 input 0 is LIKE false's contrary: least word apart 0. Input 1 likewise LIKE input 0, by 1.
        due("13: given(1)", x.given(1), 0);
        due("13: given(2)", x.given(2), 1);
        due("14: count(6)", x.count(6), 3);
        told(x, 2, 2, 0, 3);
        SweepBench y = bench(2);
        y.gate(0, 0, 0, 1, 0);
        y.gate(0, 0, 2, 0, 0);
        y.gate(0, 0, 2, ~0, 0);
        y.gate(0, 1, 2, ~0, 0);
        for (int word = 0; word < 4; word++) {
            y.vector(word);
        }
        // Nodes 4 and 5: AND again, false; node 6: ~2 & 0, parted from all others.
        due("17: sweep()", y.sweep(), 2);
        due("18: swept(4)", y.swept(4), 6);
        due("18: swept(5)", y.swept(5), 0);
        due("18: swept(6)", y.swept(6), 12);
        told(y, 0, 2, 0, 5);
    }

    private static SweepBench swept() {
        SweepBench x = bench(2);
        x.gate(0, 0, 0, 1, 0);
        x.gate(1, 1, 0, 1, 0);
        x.output(0, 2);
        x.sweep();
        due("18: swept(4)", x.swept(4), 8);
        return x;
    }

    private static void gone(String by, SweepBench x) {
        due("18: gone by " + by, x.swept(0), NONE);
        due("18: gone by " + by, x.swept(1), NONE);
        for (int what = 0; what < 4; what++) {
            due("19: gone by " + by, x.told(what), NONE);
        }
    }

    private static void sweepIsForgotten() {
        SweepBench x = swept();
        x.gate(0, 0, 0, 1, 0);
        gone("gate", x);
        x = swept();
        x.gate(1, 8, 0, 0, 0);
        gone("gate", x);
        x = swept();
        x.output(1, 0);
        gone("output", x);
        x = swept();
        x.clear(1);
        gone("clear", x);
        x = swept();
        x.inputs(2);
        gone("inputs", x);
        x = swept();
        Check.put(x, "aag 2 2 0 0 0\n2\n4\n");
        due("8: read", x.read(1), 0);
        gone("read", x);
        x.sweep();
        due("18: of the latest", x.swept(3), 6);
        due("18: of the latest", x.swept(4), NONE);
    }

    private static void sweepStays() {
        SweepBench x = swept();
        int found = x.told(0);
        x.gate(0, 9, 0, 0, 0);
        x.output(0, 9);
        x.clear(2);
        x.inputs(13);
        x.forget();
        x.vector(3);
        Check.put(x, "aag 2 2 0 0 1\n2\n4\n");
        due("8: a fault", x.read(0), 2);
        x.read(2);
        x.verdict();
        x.count(7);
        due("18: stays", x.swept(4), 8);
        due("19: stays", x.told(0), found);
        due("19: stays", x.told(2), 1);
        due("19: stays", x.told(3), 5);
    }

    private static void sameAndDiffers() {
        SweepBench x = bench(3);
        x.gate(0, 7, 0, 1, 2);
        x.gate(1, 6, 0, 1, 2);
        x.output(0, 3);
        x.output(1, 3);
        x.output(0, ~0);
        x.output(1, ~0);
        x.output(0, 2);
        // MAJ and MUX: word 4 (only c) gives 0 and 1.
        due("20: same(0)", x.same(0), 0);
        due("21: differs(0)", x.differs(0), 4);
        due("20: same(1)", x.same(1), 1);
        due("21: differs(1)", x.differs(1), NONE);
        due("20: one has none", x.same(2), NONE);
        due("21: one has none", x.differs(2), NONE);
        for (int i : new int[] {-1, 3, 10, LEAST, MOST}) {
            due("20: same(" + i + ")", x.same(i), NONE);
            due("21: differs(" + i + ")", x.differs(i), NONE);
        }
        due("20: no vector comes", x.count(6), 0);
        x.output(1, 2);
        x.output(1, 0);
        due("20: both have it now", x.same(2), 1);
        due("20: circuit 0 has none", x.same(3), NONE);
        due("21: circuit 0 has none", x.differs(3), NONE);
        SweepBench y = bench(12);
        int all = y.gate(0, 0, 0, 1, 0);
        for (int i = 2; i < 12; i++) {
            all = y.gate(0, 0, all, i, 0);
        }
        y.output(0, all);
        y.gate(1, 8, 0, 0, 0);
        y.output(1, 12);
        due("21: the last word of all", y.differs(0), 4095);
        y.output(0, 11);
        y.output(1, 12);
        due("21: half way", y.differs(1), 2048);
        SweepBench z = bench(1);
        z.output(0, 0);
        z.output(1, ~0);
        due("21: word 0", z.differs(0), 0);
        due("20: the contrary is not the same", z.same(0), 0);
    }

    private static void verdict() {
        SweepBench x = bench(2);
        due("22: none", x.verdict(), 1);
        x.output(0, 0);
        due("22: not as many", x.verdict(), NONE);
        x.output(1, 0);
        due("22: the same", x.verdict(), 1);
        x.output(0, 1);
        x.output(1, ~1);
        due("22: one is not", x.verdict(), 0);
        x.output(1, 1);
        due("22: more in circuit 1", x.verdict(), NONE);
        due("22: no vector comes", x.count(6), 0);
    }
}
