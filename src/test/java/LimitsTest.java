import com.sun.management.ThreadMXBean;
import java.lang.management.ManagementFactory;
import java.util.Random;

/** The fullest bench that calls can make, wild arguments in every state, and the room that a run takes. */
public final class LimitsTest {
    private static final int[] WILD = {Integer.MIN_VALUE, -4097, -1, 0, 1, 2, 12, 131, 132, 972, 973, 4095, 4096,
        1 << 30, Integer.MAX_VALUE};
    private static final Check CHECK = new Check();

    public static void main(String[] args) {
        fullest();
        fullestInEveryWay();
        rowsGrowTwice();
        forgetAgainAndAgain();
        vectorsAllAlongTheRows();
        wildArguments();
        room();
        CHECK.finish();
    }

    /** 120 gates MAJ each, all of sides that differ: four ANDs a gate. */
    private static SweepBench full(int inputs) {
        SweepBench x = new SweepBench();
        x.inputs(inputs);
        for (int circuit = 0; circuit < 2; circuit++) {
            for (int g = 0; g < 120; g++) {
                int last = inputs + g - 1;
                int a = circuit == 0 ? last : ~last;
                x.gate(circuit, 7, a, ~(g % inputs), (g + 1 + circuit) % inputs);
            }
            for (int i = 0; i < 10; i++) {
                x.output(circuit, inputs + 119 - i);
            }
        }
        return x;
    }

    private static void fullest() {
        SweepBench x = full(12);
        CHECK.due("gates", x.count(2) + x.count(3), 240);
        CHECK.due("false, 12 inputs, four ANDs a gate", x.count(0), 973);
        CHECK.due("the last node", x.node(972, 0) > 0, true);
        CHECK.due("none behind it", x.node(973, 0), SweepBench.NONE);
        CHECK.due("nor a group of it", x.node(973, 2), SweepBench.NONE);
        int merged = x.sweep();
        CHECK.due("own and others", merged + x.told(3), x.count(0));
        CHECK.due("found are vectors", x.told(0), x.count(6));
        CHECK.due("groups are the own ones", x.count(7), x.told(3));
        CHECK.due("asked: found or merged", x.told(1), x.told(0) + merged);
        for (int k = 0; k < x.count(0); k++) {
            CHECK.due("the representative is the least of its group", x.swept(k) >> 1, x.node(k, 2));
        }
    }

    /** All GATES, OUTPUTS, nodes and bytes at once, by the 512 calls of an object, held against PlainBench. */
    private static void fullestInEveryWay() {
        SweepBench x = new SweepBench();
        PlainBench plain = new PlainBench();
        Random random = new Random(5);
        int calls = fillBoth(x, plain, random);
        for (int k = 0; k < 150; k++) {
            CHECK.due("feed " + k, x.feed(k, k, k, k, k), plain.feed(k, k, k, k, k));
        }
        calls += 150;
        CHECK.due("sweep()", x.sweep(), plain.sweep());
        CHECK.due("verdict()", x.verdict(), plain.verdict());
        for (int k = -1; k < 10; k++) {
            CHECK.due("count(" + k + ")", x.count(k), plain.count(k));
            CHECK.due("differs(" + k + ")", x.differs(k), plain.differs(k));
        }
        calls += 24;
        for (int what = -1; what < 4; what++) {
            CHECK.due("told(" + what + ")", x.told(what), plain.told(what));
            CHECK.due("node(972, " + what + ")", x.node(972, what), plain.node(972, what));
        }
        CHECK.due("literal(1, ~131)", x.literal(1, ~131), plain.literal(1, ~131));
        calls += 11;
        for (int k = 973; calls < 512; k--) {
            CHECK.due("swept(" + k + ")", x.swept(k), plain.swept(k));
            calls++;
        }
    }

    /** 120 gates MAJ and 10 outputs of both circuits, of any signals: how many calls that took. */
    private static int fillBoth(SweepBench x, PlainBench plain, Random random) {
        x.inputs(12);
        plain.inputs(12);
        for (int circuit = 0; circuit < 2; circuit++) {
            for (int g = 0; g < 120; g++) {
                int a = circuit == 0 ? 11 + g : ~(11 + g);
                int b = g == 0 ? 0 : random.nextInt(11 + g);
                int c = random.nextInt(12);
                CHECK.due("gate " + g, x.gate(circuit, 7, a, ~b, c), plain.gate(circuit, 7, a, ~b, c));
            }
            for (int i = 0; i < 10; i++) {
                int s = 131 - 7 * i;
                CHECK.due("output " + i, x.output(circuit, s), plain.output(circuit, s));
            }
        }
        return 261;
    }

    /** Rows that were made for 7 inputs do not hold the graph of 12. */
    private static void rowsGrowTwice() {
        for (int inputs = 1; inputs < 12; inputs++) {
            SweepBench x = full(inputs);
            x.sweep();
            x.inputs(12);
            for (int g = 0; g < 120; g++) {
                x.gate(0, 7, 11 + g, ~(g % 12), (g + 1) % 12);
            }
            CHECK.due("12 inputs behind " + inputs, x.count(0), 493);
            CHECK.due("12 inputs behind " + inputs, x.value(0, 11, 4095), 1);
            CHECK.due("12 inputs behind " + inputs, x.sweep() + x.told(3), 493);
        }
    }

    private static void forgetAgainAndAgain() {
        SweepBench x = new SweepBench();
        x.inputs(12);
        for (int k = 0; k < 150; k++) {
            CHECK.due("vector", x.vector(k), 1);
            CHECK.due("groups", x.count(7), 1);
            CHECK.due("forget", x.forget(), 1);
        }
    }

    /** A vector in each of the 64 parts of a row, which leave nodes LIKE one another. */
    private static void vectorsAllAlongTheRows() {
        SweepBench x = new SweepBench();
        x.inputs(12);
        for (int k = 0; k < 64; k++) {
            CHECK.due("vector " + k, x.vector(64 * k), k + 1);
        }
        CHECK.due("inputs 0 to 5 are LIKE false", x.count(7), 7);
        for (int k = 0; k <= 12; k++) {
            CHECK.due("node " + k, x.node(k, 2), k <= 6 ? 0 : k);
        }
        CHECK.due("sweep()", x.sweep(), 0);
        CHECK.due("found", x.told(0), 6);
        CHECK.due("groups", x.count(7), 13);
    }

    private static void wildArguments() {
        SweepBench[] benches = {new SweepBench(), full(1), full(6), full(7), full(12)};
        for (SweepBench x : benches) {
            askWildly(x);
            x.sweep();
            askWildly(x);
            tellWildly(x);
        }
    }

    /** Nothing to be answered but that they end, and that what is no signal, node or output is NONE. */
    private static void askWildly(SweepBench x) {
        for (int a : WILD) {
            x.count(a);
            x.given(a);
            x.swept(a);
            x.told(a);
            CHECK.due("same and differs", x.same(a) == 0, x.differs(a) != SweepBench.NONE);
            for (int b : WILD) {
                x.node(a, b);
                CHECK.due("signal there or not", x.literal(a, b) == -1, x.value(a, b, 0) == -1);
                for (int c : WILD) {
                    x.value(a, b, c);
                }
            }
        }
    }

    private static void tellWildly(SweepBench x) {
        for (int a : WILD) {
            x.vector(a);
            x.feed(a, ~a, a, a, a);
            x.end(a);
            x.read(a);
            x.place();
            for (int b : WILD) {
                x.output(a, b);
                x.gate(a, b, a, b, a);
                x.gate(1, a, b, a, b);
            }
            x.clear(a);
            x.inputs(a);
            x.verdict();
            x.sweep();
        }
    }

    /** 512 calls after the dearest inputs(12), and the bench itself, stay far under the room of a run. */
    private static void room() {
        ThreadMXBean threads = (ThreadMXBean) ManagementFactory.getThreadMXBean();
        long id = Thread.currentThread().getId();
        long start = threads.getThreadAllocatedBytes(id);
        SweepBench x = full(12);
        x.sweep();
        long made = threads.getThreadAllocatedBytes(id);
        for (int k = 0; k < 250; k++) {
            x.vector(k);
            x.count(7);
            x.clear(k & 1);
            x.gate(k & 1, 7, 0, 1, 2);
            x.sweep();
            x.verdict();
            x.feed(k, k, k, k, k);
            x.read(0);
            x.inputs(1 + k % 12);
        }
        long later = threads.getThreadAllocatedBytes(id);
        CHECK.due("a bench of 12 inputs is small", made - start < 1_500_000, true);
        CHECK.due("calls make next to nothing", later - made < 20_000, true);
    }
}
