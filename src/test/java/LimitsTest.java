import com.sun.management.ThreadMXBean;
import java.lang.management.ManagementFactory;

/** The fullest bench that calls can make, wild arguments in every state, and the room that a run takes. */
public final class LimitsTest {
    private static final int[] WILD = {Integer.MIN_VALUE, -4097, -1, 0, 1, 2, 12, 131, 132, 972, 973, 4095, 4096,
        1 << 30, Integer.MAX_VALUE};
    private static final Check CHECK = new Check();

    public static void main(String[] args) {
        fullest();
        wildArguments();
        room();
        CHECK.finish();
    }

    /** 120 gates MAJ each, all of sides that differ: four ANDs a gate. */
    private static SweepBench full(int inputs) {
        SweepBench x = new SweepBench();
        x.inputs(inputs);
        for (int circuit = 0; circuit < 2; circuit++) {
            for (int g = 0; g < 120; g++) {
                int last = inputs + g - 1;
                int a = circuit == 0 ? last : ~last;
                x.gate(circuit, 7, a, ~(g % inputs), (g + 1 + circuit) % inputs);
            }
            for (int i = 0; i < 10; i++) {
                x.output(circuit, inputs + 119 - i);
            }
        }
        return x;
    }

    private static void fullest() {
        SweepBench x = full(12);
        CHECK.due("gates", x.count(2) + x.count(3), 240);
        CHECK.due("nearly all nodes", x.count(0) > 900, true);
        CHECK.due("no more than there can be", x.count(0) <= 973, true);
        int merged = x.sweep();
        CHECK.due("own and others", merged + x.told(3), x.count(0));
        CHECK.due("found are vectors", x.told(0), x.count(6));
        CHECK.due("groups are the own ones", x.count(7), x.told(3));
        CHECK.due("asked: found or merged", x.told(1), x.told(0) + merged);
        for (int k = 0; k < x.count(0); k++) {
            CHECK.due("the representative is the least of its group", x.swept(k) >> 1, x.node(k, 2));
        }
    }

    private static void wildArguments() {
        SweepBench[] benches = {new SweepBench(), full(1), full(6), full(7), full(12)};
        for (SweepBench x : benches) {
            askWildly(x);
            x.sweep();
            askWildly(x);
            tellWildly(x);
        }
    }

    /** Nothing to be answered but that they end, and that what is no signal, node or output is NONE. */
    private static void askWildly(SweepBench x) {
        for (int a : WILD) {
            x.count(a);
            x.given(a);
            x.swept(a);
            x.told(a);
            CHECK.due("same and differs", x.same(a) == 0, x.differs(a) != SweepBench.NONE);
            for (int b : WILD) {
                x.node(a, b);
                CHECK.due("signal there or not", x.literal(a, b) == -1, x.value(a, b, 0) == -1);
                for (int c : WILD) {
                    x.value(a, b, c);
                }
            }
        }
    }

    private static void tellWildly(SweepBench x) {
        for (int a : WILD) {
            x.vector(a);
            x.feed(a, ~a, a, a, a);
            x.end(a);
            x.read(a);
            x.place();
            for (int b : WILD) {
                x.output(a, b);
                x.gate(a, b, a, b, a);
                x.gate(1, a, b, a, b);
            }
            x.clear(a);
            x.inputs(a);
            x.verdict();
            x.sweep();
        }
    }

    /** 512 calls after the dearest inputs(12), and the bench itself, stay far under the room of a run. */
    private static void room() {
        ThreadMXBean threads = (ThreadMXBean) ManagementFactory.getThreadMXBean();
        long id = Thread.currentThread().getId();
        long start = threads.getThreadAllocatedBytes(id);
        SweepBench x = full(12);
        x.sweep();
        long made = threads.getThreadAllocatedBytes(id);
        for (int k = 0; k < 250; k++) {
            x.vector(k);
            x.count(7);
            x.clear(k & 1);
            x.gate(k & 1, 7, 0, 1, 2);
            x.sweep();
            x.verdict();
            x.feed(k, k, k, k, k);
            x.read(0);
            x.inputs(1 + k % 12);
        }
        long later = threads.getThreadAllocatedBytes(id);
        CHECK.due("a bench of 12 inputs is small", made - start < 1_500_000, true);
        CHECK.due("calls make next to nothing", later - made < 20_000, true);
    }
}
