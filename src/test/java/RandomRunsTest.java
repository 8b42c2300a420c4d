import java.util.ArrayList;
import java.util.List;
import java.util.Random;

/** Long runs of calls, the same ones each time, held against PlainBench: promises 1 to 22 together. */
public final class RandomRunsTest {
    private static final int RUNS = 900;
    private static final int MAX_CALLS = 500;

    private final Check check;
    private final Random random;
    private final SweepBench bench = new SweepBench();
    private final PlainBench plain = new PlainBench();
    private final String name;
    private int calls = 0;
    private int inputCount = 4;

    private RandomRunsTest(Check check, int run) {
        this.check = check;
        this.random = new Random(run);
        this.name = "run " + run;
    }

    public static void main(String[] args) {
        Check check = new Check();
        for (int run = 0; run < RUNS && check.isClean(); run++) {
            new RandomRunsTest(check, run).run();
        }
        check.finish();
    }

    private void run() {
        if (random.nextInt(4) != 0) {
            setInputs(random.nextInt(10) == 0 ? 7 + random.nextInt(6) : 1 + random.nextInt(6));
        }
        int many = random.nextInt(3) == 0 ? 60 : 12;
        for (int k = random.nextInt(many); k > 0; k--) {
            addGate();
        }
        while (calls < MAX_CALLS && check.isClean()) {
            step();
        }
        if (!check.isClean()) {
            System.out.println(plain);
        }
    }

    private void due(String call, long got, long want) {
        calls++;
        check.due(name + ", call " + calls + ": " + call, got, want);
    }

    private void step() {
        int kind = random.nextInt(100);
        if (kind < 30) {
            addGate();
        } else if (kind < 40) {
            addOutput();
        } else if (kind < 48) {
            addVector();
        } else if (kind < 56) {
            int what = random.nextInt(11) - 1;
            due("count(" + what + ")", bench.count(what), plain.count(what));
        } else if (kind < 66) {
            askSignal();
        } else if (kind < 76) {
            askNode();
        } else if (kind < 84) {
            askOutputs();
        } else if (kind < 88) {
            due("sweep()", bench.sweep(), plain.sweep());
        } else if (kind < 92) {
            askSweep();
        } else if (kind < 97) {
            readText();
        } else {
            stepRarely();
        }
    }

    private void stepRarely() {
        int kind = random.nextInt(6);
        if (kind == 0) {
            int circuit = random.nextInt(4) - 1;
            due("clear(" + circuit + ")", bench.clear(circuit), plain.clear(circuit));
        } else if (kind == 1) {
            due("forget()", bench.forget(), plain.forget());
        } else if (kind == 2) {
            setInputs(random.nextInt(9));
        } else if (kind == 3) {
            int n = random.nextInt(4) == 0 ? random.nextInt() : random.nextInt(60) - 3;
            due("end(" + n + ")", bench.end(n), plain.end(n));
        } else if (kind == 4) {
            int a = random.nextInt();
            due("feed", bench.feed(a, ~a, a * 3, a * 5, a * 7), plain.feed(a, ~a, a * 3, a * 5, a * 7));
        } else {
            due("place()", bench.place(), plain.place());
        }
    }

    private void setInputs(int n) {
        boolean got = bench.inputs(n);
        boolean want = plain.inputs(n);
        due("inputs(" + n + ")", got ? 1 : 0, want ? 1 : 0);
        inputCount = plain.count(1);
    }

    private int circuit() {
        return random.nextInt(30) == 0 ? random.nextInt(5) - 2 : random.nextInt(2);
    }

    private int signal(int circuit) {
        if (random.nextInt(60) == 0) {
            return random.nextInt(3) == 0 ? random.nextInt() : random.nextInt(300) - 150;
        }
        int most = inputCount + plain.count(circuit == 1 ? 3 : 2);
        int s = random.nextInt(most + (random.nextInt(15) == 0 ? 1 : 0));
        return random.nextBoolean() ? s : ~s;
    }

    private int word() {
        if (random.nextInt(20) == 0) {
            return random.nextInt(3) == 0 ? random.nextInt() : (1 << inputCount) - random.nextInt(3) + 1;
        }
        return random.nextInt(1 << inputCount);
    }

    private void addGate() {
        int circuit = circuit();
        int kind = random.nextInt(40) == 0 ? random.nextInt(13) - 2 : random.nextInt(9);
        int a = signal(circuit);
        int b = signal(circuit);
        int c = signal(circuit);
        due("gate(" + circuit + ", " + kind + ", " + a + ", " + b + ", " + c + ")",
            bench.gate(circuit, kind, a, b, c), plain.gate(circuit, kind, a, b, c));
    }

    private void addOutput() {
        int circuit = circuit();
        int s = signal(circuit);
        due("output(" + circuit + ", " + s + ")", bench.output(circuit, s), plain.output(circuit, s));
    }

    private void addVector() {
        int word = word();
        due("vector(" + word + ")", bench.vector(word), plain.vector(word));
        int k = random.nextInt(12) - 1;
        due("given(" + k + ")", bench.given(k), plain.given(k));
    }

    private void askSignal() {
        int circuit = circuit();
        int s = signal(circuit);
        int word = word();
        due("value(" + circuit + ", " + s + ", " + word + ")",
            bench.value(circuit, s, word), plain.value(circuit, s, word));
        due("literal(" + circuit + ", " + s + ")", bench.literal(circuit, s), plain.literal(circuit, s));
    }

    private void askNode() {
        int k = random.nextInt(plain.count(0) + 3) - 1;
        for (int what = -1; what < 4; what++) {
            due("node(" + k + ", " + what + ")", bench.node(k, what), plain.node(k, what));
        }
    }

    private void askOutputs() {
        int i = random.nextInt(12) - 1;
        due("same(" + i + ")", bench.same(i), plain.same(i));
        due("differs(" + i + ")", bench.differs(i), plain.differs(i));
        due("verdict()", bench.verdict(), plain.verdict());
    }

    private void askSweep() {
        for (int what = -1; what < 5; what++) {
            due("told(" + what + ")", bench.told(what), plain.told(what));
        }
        for (int k = -1; k < Math.min(20, plain.count(0) + 2); k++) {
            due("swept(" + k + ")", bench.swept(k), plain.swept(k));
        }
    }

    private void readText() {
        String text = new AigerTexts(random).text(inputCount);
        byte[] bytes = Check.bytes(text);
        bench.end(0);
        plain.end(0);
        for (int at = 0; at < bytes.length; at += 20) {
            int[] five = new int[5];
            for (int i = 0; i < 5; i++) {
                five[i] = Check.number(bytes, at + 4 * i);
            }
            due("feed", bench.feed(five[0], five[1], five[2], five[3], five[4]),
                plain.feed(five[0], five[1], five[2], five[3], five[4]));
        }
        due("end(" + bytes.length + ")", bench.end(bytes.length), plain.end(bytes.length));
        int circuit = circuit();
        due("read(" + circuit + ") of " + text, bench.read(circuit), plain.read(circuit));
        due("place() of " + text, bench.place(), plain.place());
        due("count(8)", bench.count(8), plain.count(8));
        for (int what = 2; what < 6; what++) {
            due("count(" + what + ")", bench.count(what), plain.count(what));
        }
        List<Integer> signals = new ArrayList<>();
        for (int k = 0; k < 6; k++) {
            signals.add(signal(circuit));
        }
        for (int s : signals) {
            due("literal(" + circuit + ", " + s + ")", bench.literal(circuit, s), plain.literal(circuit, s));
        }
    }
}
