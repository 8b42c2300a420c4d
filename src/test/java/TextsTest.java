/** ASCII AIGER: promises 8 and 9, every FAULT and its place, and what a text becomes. */
public final class TextsTest {
    private static final int NONE = SweepBench.NONE;
    private static final Check CHECK = new Check();

    public static void main(String[] args) {
        readAndPlace();
        bytes();
        head();
        firstOfHead();
        numbers();
        definitions();
        uses();
        notDefined();
        loops();
        constants();
        order();
        longest();
        CHECK.finish();
    }

    private static void due(String what, long got, long want) {
        CHECK.due(what, got, want);
    }

    private static SweepBench two() {
        SweepBench x = new SweepBench();
        x.inputs(2);
        return x;
    }

    /** Of a bench of two inputs: the answer of read(0), and of place(). */
    private static void fault(String text, int fault, int place) {
        SweepBench x = two();
        x.gate(0, 2, 0, 1, 0);
        x.output(0, 2);
        Check.put(x, text);
        due("8: " + text, x.read(0), fault);
        due("9: " + text, x.place(), place);
        due("8: the tape is empty", x.count(8), 0);
        if (fault != 0) {
            due("8: the circuit stays", x.count(2), 1);
            due("8: the circuit stays", x.count(4), 1);
            due("8: the circuit stays", x.value(0, 2, 3), 0);
            due("8: the circuit stays", x.value(0, 2, 1), 1);
        }
    }

    private static void right(String text) {
        fault(text, 0, NONE);
    }

    private static void readAndPlace() {
        String text = "aag 3 2 0 1 1\n2\n4\n7\n6 2 4\n";
        SweepBench x = two();
        due("9: none yet", x.place(), NONE);
        Check.put(x, text);
        due("8: circuit 2", x.read(2), NONE);
        due("8: circuit -1", x.read(-1), NONE);
        due("8: the tape stays", x.count(8), text.length());
        due("8: right", x.read(1), 0);
        due("8: empty", x.count(8), 0);
        due("14: gates", x.count(3), 1);
        due("14: outputs", x.count(5), 1);
        due("14: circuit 0", x.count(2), 0);
        for (int word = 0; word < 4; word++) {
            due("10: AND", x.value(1, 2, word), word == 3 ? 1 : 0);
        }
        due("9: no fault", x.place(), NONE);
        due("8: an empty tape", x.read(1), 1);
        due("9: at 0", x.place(), 0);
        due("14: it stays", x.count(3), 1);
        Check.put(x, "aag 3 2 0 1 1\n2\n4\nx");
        due("8: wrong", x.read(0), 1);
        due("9: at x", x.place(), 18);
        due("8: NONE", x.read(7), NONE);
        due("9: of the latest that was not NONE", x.place(), 18);
        x.inputs(3);
        due("9: it outlives inputs", x.place(), 18);
        Check.put(x, "aag 4 3 0 1 1\n2\n4\n6\n9\n8 2 4\n");
        due("8: right again", x.read(0), 0);
        due("9: none", x.place(), NONE);
        Check.put(x, "aag 3 3 0 1 0\n6\n4\n2\n6\n");
        due("8: what it was is gone", x.read(0), 0);
        due("14: no gates", x.count(2), 0);
        due("14: one output", x.count(4), 1);
        x.output(1, 0);
        due("22: the first input is variable 3", x.verdict(), 1);
    }

    private static void bytes() {
        String text = "aag 3 2 0 1 1\n2\n4\n7\n6 2 4\n";
        right(text);
        for (int at = 0; at < text.length(); at++) {
            fault(text.substring(0, at), 1, at);
            fault(text.substring(0, at) + "x" + text.substring(at + 1), 1, at);
            fault(text.substring(0, at) + "\u00b2" + text.substring(at + 1), 1, at);
        }
        fault(text + "\n", 1, text.length());
        fault(text + "c", 1, text.length());
        fault(text + "\0", 1, text.length());
        fault(" " + text, 1, 0);
        fault("aig 3 2 0 1 1\n", 1, 1);
        fault("aag  3 2 0 1 1\n", 1, 4);
        fault("aag 3 2 0 1 1 \n", 1, 13);
        fault("aag 3 2 0 1 1\r\n", 1, 13);
        fault("aag 3 2 0 1\n", 1, 11);
        fault("aag 3 2 0 1 1\n2 \n", 1, 15);
        fault("aag 3 2 0 1 1\n\n", 1, 14);
        fault("aag 3 2 0 1 1\n2\n4\n7\n6 2\n", 1, 23);
        fault("aag 3 2 0 1 1\n2\n4\n7\n6 2 4 4\n", 1, 25);
        fault("aag -3 2 0 1 1\n", 1, 4);
        fault("aag\t3 2 0 1 1\n", 1, 3);
    }

    private static void head() {
        fault("aag 1001 2 0 0 0\n", 2, 4);
        right("aag 1000 2 0 0 0\n2\n2000\n");
        fault("aag 9 1 0 0 0\n", 2, 6);
        fault("aag 9 3 0 0 0\n", 2, 6);
        fault("aag 9 2 1 0 0\n", 2, 8);
        fault("aag 9 2 0 11 0\n", 2, 10);
        fault("aag 200 2 0 0 120\n", 2, 14);
        fault("aag 1 2 0 0 0\n", 2, 4);
        fault("aag 2 2 0 0 1\n", 2, 4);
        fault("aag 120 2 0 0 119\n", 2, 4);
        right("aag 2 2 0 0 0\n2\n4\n");
        right("aag 2 2 0 10 0\n2\n4\n2\n3\n4\n5\n2\n3\n4\n5\n2\n3\n");
        // A NUMBER is asked ahead of what is behind it.
        fault("aag 1001x", 2, 4);
        fault("aag 1001", 2, 4);
        fault("aag 9 3x", 2, 6);
        fault("aag 9 2 1x", 2, 8);
        fault("aag 9 2 0 11", 2, 10);
        fault("aag 200 2 0 0 120x", 2, 14);
        fault("aag 2 2 0 0 1x", 2, 4);
        fault("aag 1 2 0 x", 1, 10);
    }

    /** The first along the text, though M against I and A can be asked only once A is there. */
    private static void firstOfHead() {
        fault("aag 3 3 0 1 1\n", 2, 4);
        fault("aag 2 2 1 0 1\n", 2, 4);
        fault("aag 2 2 0 11 1\n", 2, 4);
        fault("aag 2 2 0 0 120\n", 2, 4);
        fault("aag 3 3 1 11 120\0", 2, 4);
        fault("aag 3 3 1 11 120", 2, 4);
        fault("aag 3 3 1 11 1234567890\n", 2, 4);
        fault("aag 9 999999999 1 11 999999999\n", 2, 4);
        fault("aag 1001 3 1 11 120\n", 2, 4);
        // By the I and the A that the text tells, not by n: 3 and 6 are 9.
        fault("aag 9 3 0 0 6\n", 2, 6);
        fault("aag 9 3 0 0 7\n", 2, 4);
        fault("aag 6 1 0 0 5\n", 2, 6);
        // Without M's, the first of the others.
        fault("aag 999 3 1 11 120\n", 2, 8);
        fault("aag 999 2 1 11 120\n", 2, 10);
        fault("aag 999 2 0 11 120\n", 2, 12);
        fault("aag 999 2 0 10 120\n", 2, 15);
        // A text that breaks off ahead of A: M is not asked against it, the others are.
        fault("aag 3 3 1 11 x", 2, 6);
        fault("aag 3 2 1 11 x", 2, 8);
        fault("aag 3 2 0 11", 2, 10);
        fault("aag 3 2 0 1 x", 1, 12);
        fault("aag 1 3x1 11 120\n", 2, 6);
        fault("aag 1 2 0 0\n", 1, 11);
        fault("aag 00 3 0 0 0\n", 1, 5);
    }

    private static void numbers() {
        fault("aag 03 2 0 1 1\n", 1, 5);
        fault("aag 3 02 0 1 1\n", 2, 6);
        fault("aag 3 2 00 1 1\n", 1, 9);
        fault("aag 999999999 2 0 1 1\n", 2, 4);
        fault("aag 1234567890 2 0 1 1\n", 2, 4);
        fault("aag 3 2 0 1 1\n02\n", 3, 14);
        // 2 to the 32 and a little: more digits than may stand, so it is not 2.
        fault("aag 4294967299 2 0 1 1\n", 2, 4);
        fault("aag 3 2 0 1 1\n4294967298\n", 3, 14);
        fault("aag 3 2 0 1 1\n2\n4\n4294967298\n", 4, 18);
        fault("aag 3 2 0 1 1\n2\n4\n1234567890\n", 4, 18);
        fault("aag 3 2 0 1 1\n2\n4\n999999999\n", 4, 18);
        fault("aag 3 2 0 1 1\n2\n4\n06\n", 1, 19);
        fault("aag 3 2 0 1 1\n2\n4\n00\n", 1, 19);
        fault("aag 3 2 0 1 1\n2\n4\n6\n1234567890 2 4\n", 3, 20);
    }

    private static void definitions() {
        fault("aag 3 2 0 1 1\n3\n", 3, 14);
        fault("aag 3 2 0 1 1\n0\n", 3, 14);
        fault("aag 3 2 0 1 1\n1\n", 3, 14);
        fault("aag 3 2 0 1 1\n8\n", 3, 14);
        fault("aag 3 2 0 1 1\n7\n", 3, 14);
        fault("aag 3 2 0 1 1\n2\n2\n", 3, 16);
        fault("aag 3 2 0 1 1\n2\n2x", 3, 16);
        fault("aag 3 2 0 1 1\n6\n4\n7\n6 2 4\n", 3, 20);
        fault("aag 3 2 0 1 1\n2\n4\n7\n7 2 4\n", 3, 20);
        fault("aag 3 2 0 1 1\n2\n4\n7\n0 2 4\n", 3, 20);
        fault("aag 3 2 0 1 1\n2\n4\n7\n8 2 4\n", 3, 20);
        fault("aag 4 2 0 1 2\n2\n4\n7\n6 2 4\n6 2 4\n", 3, 26);
        fault("aag 4 2 0 1 2\n2\n4\n7\n6 2 4\n6", 3, 26);
        right("aag 4 2 0 1 2\n2\n4\n7\n6 2 4\n8 2 4\n");
    }

    private static void uses() {
        fault("aag 3 2 0 1 1\n2\n4\n8\n6 2 4\n", 4, 18);
        fault("aag 3 2 0 1 1\n2\n4\n8x", 4, 18);
        fault("aag 3 2 0 1 1\n2\n4\n7\n6 8 4\n", 4, 22);
        fault("aag 3 2 0 1 1\n2\n4\n7\n6 2 9\n", 4, 24);
        right("aag 3 2 0 1 1\n2\n4\n7\n6 3 5\n");
        // Along the text: the use stands ahead of the definition.
        fault("aag 4 2 0 1 2\n2\n4\n7\n6 2 10\n6 2 4\n", 4, 24);
        fault("aag 4 2 0 1 2\n2\n4\n7\n6 2 4\n6 2 10\n", 3, 26);
    }

    private static void notDefined() {
        fault("aag 4 2 0 1 1\n2\n4\n8\n6 2 4\n", 5, 18);
        fault("aag 4 2 0 1 1\n2\n4\n9\n6 2 4\n", 5, 18);
        fault("aag 4 2 0 1 1\n2\n4\n6\n6 9 4\n", 5, 22);
        fault("aag 4 2 0 1 1\n2\n4\n6\n6 2 8\n", 5, 24);
        // Behind all others: a byte at the end, a use too high.
        fault("aag 4 2 0 1 1\n2\n4\n8\n6 2 4\nx", 1, 26);
        fault("aag 4 2 0 1 1\n2\n4\n8\n6 2 10\n", 4, 24);
        fault("aag 4 2 0 1 1\n2\n4\n8\n4 2 4\n", 3, 20);
        // An AND further on defines it.
        right("aag 4 2 0 1 2\n2\n4\n8\n6 2 4\n8 6 4\n");
        right("aag 4 2 0 1 2\n2\n4\n8\n8 6 4\n6 2 4\n");
    }

    private static void loops() {
        fault("aag 3 2 0 1 1\n2\n4\n7\n6 6 4\n", 6, 20);
        fault("aag 3 2 0 1 1\n2\n4\n7\n6 4 7\n", 6, 20);
        fault("aag 4 2 0 1 2\n2\n4\n7\n6 8 4\n8 7 2\n", 6, 20);
        // The first AND needs the loop but not itself.
        fault("aag 5 2 0 1 3\n2\n4\n7\n6 8 4\n8 10 2\n10 8 2\n", 6, 26);
        fault("aag 5 2 0 1 3\n2\n4\n7\n6 2 4\n8 6 2\n10 6 11\n", 6, 32);
        // The loop that is first along the text, though others come ahead by name.
        fault("aag 6 2 0 0 4\n2\n4\n12 10 2\n10 12 2\n6 8 2\n8 6 2\n", 6, 18);
        // Needed through a false side, too.
        fault("aag 3 2 0 1 1\n2\n4\n7\n6 0 6\n", 6, 20);
        // Behind 5.
        fault("aag 4 2 0 1 1\n2\n4\n7\n6 6 8\n", 5, 24);
        // A long ring: 119 ANDs, each needing the next one.
        StringBuilder ring = new StringBuilder("aag 121 2 0 0 119\n2\n4\n");
        int first = ring.length();
        for (int j = 0; j < 119; j++) {
            ring.append(2 * (3 + j)).append(' ').append(2 * (3 + (j + 1) % 119)).append(" 2\n");
        }
        fault(ring.toString(), 6, first);
    }

    private static void constants() {
        SweepBench x = two();
        Check.put(x, "aag 3 2 0 3 1\n2\n4\n0\n1\n6\n6 2 1\n");
        due("8: read", x.read(0), 0);
        due("14: FALSE and AND", x.count(2), 2);
        due("16: FALSE ahead", x.literal(0, 2), 0);
        due("16: AND with true", x.literal(0, 3), 2);
        x.gate(1, 8, 0, 0, 0);
        x.output(1, 2);
        x.output(1, ~2);
        x.output(1, 0);
        due("22: 0, 1 and the first input", x.verdict(), 1);
        Check.put(x, "aag 2 2 0 1 0\n2\n4\n1\n");
        due("8: read", x.read(0), 0);
        due("14: FALSE alone", x.count(2), 1);
        due("10: false", x.value(0, 2, 3), 0);
        Check.put(x, "aag 3 2 0 0 1\n2\n4\n6 4 0\n");
        due("8: read", x.read(0), 0);
        due("14: used by an AND", x.count(2), 2);
        Check.put(x, "aag 3 2 0 1 1\n2\n4\n2\n6 4 2\n");
        due("8: read", x.read(0), 0);
        due("14: not used", x.count(2), 1);
        due("15: the AND", x.node(3, 0), 2);
    }

    /** Told backwards: again and again the first whose sides are there. */
    private static void order() {
        SweepBench x = two();
        Check.put(x, "aag 7 2 0 2 5\n2\n4\n6\n15\n6 8 2\n8 10 4\n10 2 5\n12 3 4\n14 3 5\n");
        due("8: read", x.read(0), 0);
        // 10 is the first that can stand (signal 2), then 8 (3), 6 (4), 12 (5), 14 (6).
        int[][] sides = {{2, 5}, {3, 4}, {3, 5}};
        due("16: 10 is signal 2", x.literal(0, 2), 6);
        due("15: its sides", x.node(3, 0), sides[0][0]);
        due("15: its sides", x.node(3, 1), sides[0][1]);
        due("16: 8 is signal 3", x.literal(0, 3), 8);
        due("15: 8's sides", x.node(4, 0), 4);
        due("15: 8's sides", x.node(4, 1), 6);
        due("16: 6 is signal 4", x.literal(0, 4), 10);
        due("15: 6's sides", x.node(5, 0), 2);
        due("15: 6's sides", x.node(5, 1), 8);
        due("15: 12's sides", x.node(6, 0), sides[1][0]);
        due("15: 12's sides", x.node(6, 1), sides[1][1]);
        due("16: 14 is signal 6", x.literal(0, 6), 14);
        due("15: 14's sides", x.node(7, 1), sides[2][1]);
        x.gate(1, 8, 0, 0, 0);
        x.output(1, 2);
        x.gate(1, 1, 0, 1, 0);
        x.output(1, 3);
        due("20: output 0 is 6, which is false", x.same(0), 1);
        due("20: output 1 is 14's contrary", x.same(1), 1);
        // Inputs are in the text's order, whatever their names.
        Check.put(x, "aag 3 2 0 1 1\n6\n2\n4\n4 6 3\n");
        due("8: read", x.read(0), 0);
        due("10: input 0 and not input 1", x.value(0, 2, 1), 1);
        due("10: input 0 and not input 1", x.value(0, 2, 2), 0);
    }

    private static void longest() {
        StringBuilder text = new StringBuilder("aag 1000 2 0 10 119\n2\n4\n");
        for (int i = 0; i < 10; i++) {
            text.append(i == 9 ? "0\n" : 2 * (1000 - i) + "\n");
        }
        for (int j = 0; j < 119; j++) {
            int side = j == 118 ? 2 : 2 * (999 - j) + 1;
            text.append(2 * (1000 - j)).append(' ').append(side).append(" 4\n");
        }
        SweepBench x = two();
        Check.put(x, text.toString());
        due("8: 119 ANDs, told backwards", x.read(0), 0);
        due("14: and FALSE", x.count(2), 120);
        due("14: outputs", x.count(4), 10);
        due("3: full", x.gate(0, 8, 0, 0, 0), NONE);
        due("4: full", x.output(0, 0), NONE);
        StringBuilder full = new StringBuilder("aag 2 2 0 0 0\n2\n4\n");
        while (full.length() < 3000) {
            full.append('\n');
        }
        Check.put(x, full.toString());
        due("6: all 3000 bytes", x.count(8), 3000);
        due("8: behind these nothing", x.read(1), 1);
        due("9: at the first of them", x.place(), 18);
    }
}
