/** Promises 8 and 9, and TEXTS of the terms: each sentence that names a boundary has a test of its own. */
public final class BoundsOfTextsTest {
    private static final int NONE = Bounds.NONE;
    private static final Bounds BOUNDS = new Bounds();

    public static void main(String[] args) {
        readNoSuchCircuit();
        readEmptyTape();
        readEmptiesTheTape();
        readTakesTheOldAway();
        readLeavesTheOther();
        faultLeavesAll();
        readTextAfterText();
        placeOfTheLatest();
        placeAtTheEdges();
        leastText();
        fullestText();
        everyByteWrong();
        everyEnd();
        nothingBehind();
        partedByOne();
        numbersWithZeroAhead();
        numbersOfManyDigits();
        bytesBesideDigits();
        headLatches();
        headInputs();
        headOutputs();
        headAnds();
        headVariables();
        headFirstOfMany();
        defineOdd();
        defineBelowTwo();
        defineAbove();
        defineAlready();
        useAbove();
        useHighest();
        firstAlongTheText();
        usedButNotDefined();
        notDefinedBehindAllOthers();
        needsItself();
        needsItselfByOthers();
        needsItselfBehindNotDefined();
        falseIfUsed();
        falseAheadOfAll();
        gatesInOrder();
        BOUNDS.finish();
    }

    private static void due(String what, long got, long want) {
        BOUNDS.due(what, got, want);
    }

    private static String name(String text) {
        return text.replace('\n', '/');
    }

    /** A text that a rich bench, of two inputs, reads: its FAULT and place; the TAPE is empty then, all else stays. */
    private static void fault(String text, int fault, int place) {
        for (int circuit = 0; circuit < 2; circuit++) {
            SweepBench x = Bounds.rich();
            String before = Bounds.circuitsOf(x);
            Check.put(x, text);
            due("8: " + name(text), x.read(circuit), fault);
            due("9: " + name(text), x.place(), place);
            due("8: the tape is empty", x.count(8), 0);
            due("8: all else stays", Bounds.circuitsOf(x).equals(before) ? 1 : 0, 1);
        }
    }

    /** A text that becomes a circuit, of so many GATES and OUTPUTS. */
    private static SweepBench right(int inputs, String text, int gates, int outputs) {
        SweepBench x = Bounds.bench(inputs);
        Check.put(x, text);
        due("8: " + name(text), x.read(0), 0);
        due("9: " + name(text), x.place(), NONE);
        due("8: the tape is empty", x.count(8), 0);
        due("14: gates of " + name(text), x.count(2), gates);
        due("14: outputs of " + name(text), x.count(4), outputs);
        return x;
    }

    /** The lines of so many inputs, variables 1 to n. */
    private static String inputLines(int inputs) {
        StringBuilder lines = new StringBuilder();
        for (int i = 1; i <= inputs; i++) {
            lines.append(2 * i).append('\n');
        }
        return lines.toString();
    }

    /** 8: "NONE, and nothing happens, without such a circuit". */
    private static void readNoSuchCircuit() {
        for (int circuit : Bounds.NO_CIRCUITS) {
            BOUNDS.refused("8: circuit " + circuit, x -> x.read(circuit));
        }
    }

    /** Terms: "or the end (at it)": of nothing. */
    private static void readEmptyTape() {
        fault("", 1, 0);
    }

    /** 8: "The TAPE, which is empty then": by a circuit, and by a FAULT. */
    private static void readEmptiesTheTape() {
        SweepBench x = Bounds.rich();
        due("8: a circuit", x.read(0), 0);
        due("14: empty", x.count(8), 0);
        due("7: it has not one byte", x.end(1), NONE);
        due("8: read again", x.read(0), 1);
        due("9: at its end", x.place(), 0);
        Check.put(x, "aag 3 2 0 1 1\n2\n4\n7\n6 2 4\nx");
        due("8: a fault", x.read(0), 1);
        due("14: empty", x.count(8), 0);
        due("6: it is fed anew", x.feed(0, 0, 0, 0, 0), 20);
    }

    /** 8: "(what it was is gone)": a full circuit. */
    private static void readTakesTheOldAway() {
        for (int circuit = 0; circuit < 2; circuit++) {
            SweepBench x = Bounds.bench(2);
            Bounds.fillWithFalse(x, circuit);
            Bounds.fillOutputs(x, circuit, 121);
            Check.put(x, "aag 2 2 0 0 0\n2\n4\n");
            due("8: read", x.read(circuit), 0);
            due("14: no gates", x.count(2 + circuit), 0);
            due("14: no outputs", x.count(4 + circuit), 0);
            due("16: no signal 2", x.literal(circuit, 2), NONE);
            due("3: the first gate", x.gate(circuit, 0, 0, 1, 0), 2);
            due("4: the first output", x.output(circuit, 2), 0);
        }
    }

    /** 8: one circuit; the other one, INPUTS and VECTORS stay. */
    private static void readLeavesTheOther() {
        for (int circuit = 0; circuit < 2; circuit++) {
            SweepBench x = Bounds.rich();
            int vectors = x.count(6);
            due("8: read", x.read(circuit), 0);
            due("14: a gate", x.count(2 + circuit), 1);
            due("14: an output", x.count(4 + circuit), 1);
            due("14: the other's gates", x.count(3 - circuit), circuit == 0 ? 3 : 2);
            due("14: the other's outputs", x.count(5 - circuit), 2);
            due("14: inputs", x.count(1), 2);
            due("14: vectors", x.count(6), vectors);
        }
    }

    /** 8: "or its FAULT, and the circuit stays": each FAULT. */
    private static void faultLeavesAll() {
        fault("aag 3 2 0 1 1\n2\n4\n7\n6 2 4", 1, 25);
        fault("aag 3 2 1 1 1\n2\n4\n7\n6 2 4\n", 2, 8);
        fault("aag 3 2 0 1 1\n2\n4\n7\n4 2 4\n", 3, 20);
        fault("aag 3 2 0 1 1\n2\n4\n7\n6 2 8\n", 4, 24);
        fault("aag 4 2 0 1 1\n2\n4\n7\n6 2 8\n", 5, 24);
        fault("aag 3 2 0 1 1\n2\n4\n7\n6 2 6\n", 6, 20);
    }

    /** 8: a text is read by itself, whatever was read ahead of it. */
    private static void readTextAfterText() {
        SweepBench x = Bounds.bench(2);
        Check.put(x, "aag 5 2 0 2 3\n8\n2\n0\n10\n4 2 9\n6 8 4\n10 7 1\n");
        due("8: with FALSE", x.read(0), 0);
        due("14: four gates", x.count(2), 4);
        Check.put(x, "aag 4 2 0 1 2\n2\n4\n9\n6 3 4\n8 6 5\n");
        due("8: without", x.read(0), 0);
        due("14: two gates", x.count(2), 2);
        due("14: one output", x.count(4), 1);
        due("15: sides of the first", x.node(3, 0) + 100 * x.node(3, 1), 403);
        due("15: sides of the second", x.node(4, 0) + 100 * x.node(4, 1), 605);
        // Loops of the text ahead: all three, then the last two, then none.
        int[][] faults = {{6, 18}, {6, 24}, {0, NONE}, {6, 30}};
        String[] lines = {"6 8 2\n8 10 2\n10 6 2\n", "6 8 2\n8 10 2\n10 8 2\n", "6 8 2\n8 10 2\n10 2 4\n",
            "6 2 4\n8 6 2\n10 10 2\n"};
        for (int k = 0; k < lines.length; k++) {
            Check.put(x, "aag 5 2 0 0 3\n2\n4\n" + lines[k]);
            due("8: " + name(lines[k]), x.read(0), faults[k][0]);
            due("9: " + name(lines[k]), x.place(), faults[k][1]);
        }
        // What a text defined ahead of its FAULT is not defined for the next one.
        Check.put(x, "aag 9 2 0 0 1\n2\n4\n8 2 x");
        due("8: a fault", x.read(0), 1);
        Check.put(x, "aag 9 2 0 1 1\n2\n4\n8\n6 2 4\n");
        due("8: nothing defines 8", x.read(0), 5);
        due("9: at it", x.place(), 18);
    }

    /** 9: "the latest read() that was not NONE; NONE without one". */
    private static void placeOfTheLatest() {
        SweepBench x = Bounds.bench(2);
        due("9: no read() yet", x.place(), NONE);
        x.read(2);
        due("9: NONE alone", x.place(), NONE);
        Check.put(x, "aag y");
        x.read(0);
        due("9: a fault", x.place(), 4);
        x.read(-1);
        due("9: NONE does not count", x.place(), 4);
        Check.put(x, Bounds.TEXT);
        due("9: the tape is no read()", x.place(), 4);
        x.read(7);
        due("9: NONE does not count", x.place(), 4);
        x.read(1);
        due("9: the latest has no fault", x.place(), NONE);
        x.read(2);
        due("9: NONE does not count", x.place(), NONE);
        x.read(1);
        due("9: the latest", x.place(), 0);
        x.clear(1);
        x.inputs(3);
        due("9: no other call counts", x.place(), 0);
    }

    /** 9: a place from 0 to 3000. */
    private static void placeAtTheEdges() {
        fault("bag", 1, 0);
        fault("a", 1, 1);
        SweepBench x = Bounds.bench(2);
        for (int k = 0; k < 150; k++) {
            x.feed(0, 0, 0, 0, 0);
        }
        due("8: 3000 bytes 0", x.read(0), 1);
        due("9: at the first", x.place(), 0);
    }

    /** Terms: a text without OUTPUTS and ANDs. */
    private static void leastText() {
        right(1, "aag 1 1 0 0 0\n2\n", 0, 0);
        right(2, "aag 2 2 0 0 0\n4\n2\n", 0, 0);
        right(12, "aag 12 12 0 0 0\n" + inputLines(12), 0, 0);
    }

    /** Terms: 12 inputs, 10 OUTPUTS, 119 ANDs and FALSE. */
    private static void fullestText() {
        StringBuilder text = new StringBuilder("aag 1000 12 0 10 119\n" + inputLines(12));
        for (int i = 0; i < 10; i++) {
            text.append(i == 9 ? "1\n" : "2000\n");
        }
        for (int j = 0; j < 119; j++) {
            text.append(2000 - 2 * j).append(' ').append(j == 118 ? 24 : 1998 - 2 * j).append(" 2\n");
        }
        SweepBench x = right(12, text.toString(), 120, 10);
        due("16: FALSE", x.literal(0, 12), 0);
        due("16: the last AND of the text is the first gate", x.literal(0, 13), 26);
        due("15: its sides", x.node(13, 0), 2);
        due("15: its sides", x.node(13, 1), 24);
        due("16: the first AND is the last gate", x.literal(0, 131), 262);
        due("15: its sides", x.node(131, 1), 260);
        due("3: full", x.gate(0, 8, 0, 0, 0), NONE);
    }

    /** Terms: "1 a byte that can't stand there .. (at it)". */
    private static void everyByteWrong() {
        String text = Bounds.TEXT;
        for (int at = 0; at < text.length(); at++) {
            for (char wrong : new char[] {0, 9, 13, '-', '+', 'A', 127, 128, 255}) {
                fault(text.substring(0, at) + wrong + text.substring(at + 1), 1, at);
            }
            char high = (char) (text.charAt(at) + 128);
            fault(text.substring(0, at) + high + text.substring(at + 1), 1, at);
        }
    }

    /** Terms: "or the end (at it)". */
    private static void everyEnd() {
        String text = "aag 1000 2 0 1 1\n200\n400\n601\n600 200 401\n";
        right(2, text, 1, 1);
        for (int at = 0; at < text.length(); at++) {
            fault(text.substring(0, at), 1, at);
        }
    }

    /** Terms: "behind these nothing". */
    private static void nothingBehind() {
        for (String more : new String[] {"\n", " ", "0", "\0", "c\n", "i0 x\n", "8 2 4\n", "c\nwords\n"}) {
            fault(Bounds.TEXT + more, 1, Bounds.TEXT.length());
            fault("aag 2 2 0 0 0\n2\n4\n" + more, 1, 18);
        }
    }

    /** Terms: "LINES, each ended by a byte 10", "parted by one byte 32". */
    private static void partedByOne() {
        fault("aag  3 2 0 1 1\n2\n4\n7\n6 2 4\n", 1, 4);
        fault("aag3 2 0 1 1\n2\n4\n7\n6 2 4\n", 1, 3);
        fault("aag 3  2 0 1 1\n2\n4\n7\n6 2 4\n", 1, 6);
        fault("aag 3 2 0 1 1 \n2\n4\n7\n6 2 4\n", 1, 13);
        fault("aag 3 2 0 1 1 0\n2\n4\n7\n6 2 4\n", 1, 13);
        fault("aag 3 2 0 1\n2\n4\n7\n6 2 4\n", 1, 11);
        fault("aag 3 2 0 1 1\n 2\n4\n7\n6 2 4\n", 1, 14);
        fault("aag 3 2 0 1 1\n2 \n4\n7\n6 2 4\n", 1, 15);
        fault("aag 3 2 0 1 1\n2 4\n7\n6 2 4\n", 1, 15);
        fault("aag 3 2 0 1 1\n2\n\n4\n7\n6 2 4\n", 1, 16);
        fault("aag 3 2 0 1 1\n2\n4\n7\n6  2 4\n", 1, 22);
        fault("aag 3 2 0 1 1\n2\n4\n7\n6 2  4\n", 1, 24);
        fault("aag 3 2 0 1 1\n2\n4\n7\n6\n2\n4\n", 1, 21);
        fault("aag 3 2 0 1 1\n2\n4\n7\n6 2 4 \n", 1, 25);
        fault("aag 3 2 0 1 1\r\n2\n4\n7\n6 2 4\n", 1, 13);
    }

    /** Terms: "NUMBERS: 0, or digits that don't begin with 0 .. one ends where no more of its digits may stand". */
    private static void numbersWithZeroAhead() {
        fault("aag 03 2 0 1 1\n", 1, 5);
        fault("aag 3 02 0 1 1\n", 2, 6);
        fault("aag 3 2 00 1 1\n", 1, 9);
        fault("aag 3 2 0 01 1\n", 1, 11);
        fault("aag 3 2 0 1 01\n", 1, 13);
        fault("aag 3 2 0 1 1\n02\n4\n7\n6 2 4\n", 3, 14);
        fault("aag 3 2 0 1 1\n2\n4\n07\n6 2 4\n", 1, 19);
        fault("aag 3 2 0 1 1\n2\n4\n00\n6 2 4\n", 1, 19);
        fault("aag 3 2 0 1 1\n2\n4\n7\n06 2 4\n", 3, 20);
        fault("aag 3 2 0 1 1\n2\n4\n7\n6 02 4\n", 1, 23);
        fault("aag 3 2 0 1 1\n2\n4\n7\n6 2 04\n", 1, 25);
        right(2, "aag 3 2 0 1 1\n2\n4\n0\n6 0 0\n", 2, 1);
    }

    /** Terms: "at most 9 digits .. and is asked ahead of what is behind it"; 4294967298 is no 2. */
    private static void numbersOfManyDigits() {
        String[] numbers = {"999999999", "9999999999", "1000000000", "4294967298", "4294967302", "2147483649",
            "18446744073709551618", "123456789x", "99999999999999999999999999999999"};
        for (String many : numbers) {
            fault("aag " + many + " 2 0 1 1\n", 2, 4);
            fault("aag 3 " + many + " 0 1 1\n", 2, many.length() > 9 ? 6 : 4);
            fault("aag 3 2 " + many + " 1 1\n", 2, 8);
            fault("aag 3 2 0 " + many + " 1\n", 2, 10);
            fault("aag 3 2 0 1 " + many + "\n", 2, 4);
            fault("aag 3 2 0 1 1\n" + many + "\n", 3, 14);
            fault("aag 3 2 0 1 1\n2\n4\n" + many + "\n", 4, 18);
            fault("aag 3 2 0 1 1\n2\n4\n7\n" + many + " 2 4\n", 3, 20);
            fault("aag 3 2 0 1 1\n2\n4\n7\n6 " + many + " 4\n", 4, 22);
            fault("aag 3 2 0 1 1\n2\n4\n7\n6 2 " + many + "\n", 4, 24);
        }
    }

    /** Terms: the bytes just below 0 and just above 9 are no digits. */
    private static void bytesBesideDigits() {
        for (char beside : new char[] {'/', ':'}) {
            fault("aag " + beside + " 2 0 1 1\n", 1, 4);
            fault("aag 3" + beside + " 2 0 1 1\n", 1, 5);
            fault("aag 3 2 0 1 1\n2\n4\n" + beside + "\n", 1, 18);
        }
        right(2, "aag 109 2 0 1 2\n90\n208\n217\n216 90 208\n198 217 91\n", 2, 1);
    }

    /** Terms: "L is not 0". */
    private static void headLatches() {
        fault("aag 3 2 1 1 1\n", 2, 8);
        fault("aag 3 2 9 1 1\n", 2, 8);
        fault("aag 3 2 1", 2, 8);
        fault("aag 3 2 0", 1, 9);
    }

    /** Terms: "I is not n". */
    private static void headInputs() {
        for (int n = 1; n <= 12; n++) {
            for (int told = 0; told <= 14; told++) {
                SweepBench x = Bounds.bench(n);
                Check.put(x, "aag 20 " + told + " 0 0 0\n" + inputLines(told));
                due("8: " + told + " of " + n, x.read(0), told == n ? 0 : 2);
                due("9: " + told + " of " + n, x.place(), told == n ? NONE : 7);
            }
        }
    }

    /** Terms: "O is above 10". */
    private static void headOutputs() {
        fault("aag 3 2 0 11 1\n", 2, 10);
        fault("aag 3 2 0 11", 2, 10);
        fault("aag 3 2 0 100 1\n", 2, 10);
        right(2, "aag 2 2 0 10 0\n2\n4\n2\n3\n4\n5\n2\n3\n4\n5\n2\n3\n", 0, 10);
        right(2, "aag 2 2 0 9 0\n2\n4\n2\n3\n4\n5\n2\n3\n4\n5\n2\n", 0, 9);
        // The ten lines must be there.
        fault("aag 2 2 0 10 0\n2\n4\n2\n3\n4\n5\n2\n3\n4\n5\n2\n", 1, 37);
    }

    private static String andLines(int inputs, int ands) {
        StringBuilder lines = new StringBuilder();
        for (int j = 0; j < ands; j++) {
            lines.append(2 * (inputs + 1 + j)).append(" 2 3\n");
        }
        return lines.toString();
    }

    /** Terms: "A above 119". */
    private static void headAnds() {
        right(2, "aag 121 2 0 0 119\n2\n4\n" + andLines(2, 119), 119, 0);
        fault("aag 122 2 0 0 120\n2\n4\n" + andLines(2, 120), 2, 14);
        fault("aag 1000 2 0 0 120", 2, 15);
        fault("aag 1000 2 0 0 998", 2, 15);
        right(1, "aag 120 1 0 0 119\n2\n" + andLines(1, 119), 119, 0);
        right(12, "aag 131 12 0 0 119\n" + inputLines(12) + andLines(12, 119), 119, 0);
    }

    /** Terms: "M below I and A together or above 1000". */
    private static void headVariables() {
        right(2, "aag 2 2 0 0 0\n2\n4\n", 0, 0);
        fault("aag 1 2 0 0 0\n2\n4\n", 2, 4);
        fault("aag 0 2 0 0 0\n2\n4\n", 2, 4);
        right(2, "aag 3 2 0 0 1\n2\n4\n6 2 4\n", 1, 0);
        fault("aag 2 2 0 0 1\n2\n4\n6 2 4\n", 2, 4);
        fault("aag 120 2 0 0 119\n2\n4\n" + andLines(2, 119), 2, 4);
        right(2, "aag 1000 2 0 0 0\n2\n2000\n", 0, 0);
        fault("aag 1001 2 0 0 0\n2\n4\n", 2, 4);
        fault("aag 1001", 2, 4);
        fault("aag 1000", 1, 8);
    }

    /** Terms: "FAULTS, the first along the text": by place, though M's asks for what stands behind it. */
    private static void headFirstOfMany() {
        fault("aag 2 3 1 11 120\n", 2, 4);
        fault("aag 999 3 1 11 120\n", 2, 8);
        fault("aag 999 2 1 11 120\n", 2, 10);
        fault("aag 999 2 0 11 120\n", 2, 12);
        fault("aag 999 2 0 10 120\n", 2, 15);
        fault("aag 999 2 0 10 119\r", 1, 18);
        fault("aag 2 2 0 0 1\r", 2, 4);
    }

    /** Terms: "3 a literal to be defined .. that is odd". */
    private static void defineOdd() {
        fault("aag 3 2 0 1 1\n3\n4\n7\n6 2 4\n", 3, 14);
        fault("aag 3 2 0 1 1\n2\n5\n7\n6 2 4\n", 3, 16);
        fault("aag 3 2 0 1 1\n2\n4\n7\n7 2 4\n", 3, 20);
    }

    /** Terms: "below 2": 2 is the least. */
    private static void defineBelowTwo() {
        for (int literal = 0; literal < 2; literal++) {
            fault("aag 3 2 0 1 1\n" + literal + "\n4\n7\n6 2 4\n", 3, 14);
            fault("aag 3 2 0 1 1\n2\n" + literal + "\n7\n6 2 4\n", 3, 16);
            fault("aag 3 2 0 1 1\n2\n4\n7\n" + literal + " 2 4\n", 3, 20);
        }
        right(2, "aag 3 2 0 1 1\n4\n6\n3\n2 4 6\n", 1, 1);
    }

    /** Terms: "above 2 M + 1": 2 M is the greatest that is even. */
    private static void defineAbove() {
        right(2, "aag 3 2 0 1 1\n6\n4\n3\n2 6 4\n", 1, 1);
        fault("aag 3 2 0 1 1\n8\n4\n7\n6 2 4\n", 3, 14);
        fault("aag 3 2 0 1 1\n2\n8\n7\n6 2 4\n", 3, 16);
        fault("aag 3 2 0 1 1\n2\n4\n7\n8 2 4\n", 3, 20);
        right(2, "aag 1000 2 0 1 1\n2\n4\n2001\n2000 2 4\n", 1, 1);
        fault("aag 1000 2 0 1 1\n2\n4\n2001\n2002 2 4\n", 3, 26);
        fault("aag 999 2 0 1 1\n2\n2000\n7\n6 2 4\n", 3, 18);
    }

    /** Terms: "or defined already". */
    private static void defineAlready() {
        fault("aag 3 2 0 1 1\n2\n2\n7\n6 2 4\n", 3, 16);
        fault("aag 3 2 0 1 1\n2\n4\n7\n2 2 4\n", 3, 20);
        fault("aag 3 2 0 1 1\n2\n4\n5\n4 2 4\n", 3, 20);
        fault("aag 4 2 0 1 2\n2\n4\n7\n6 2 4\n6 2 4\n", 3, 26);
        fault("aag 5 2 0 1 3\n2\n4\n7\n6 2 4\n8 2 4\n6 2 4\n", 3, 32);
        fault("aag 1000 2 0 1 2\n2\n4\n2000\n2000 2 4\n2000 2 4\n", 3, 35);
        // What one text defined is not defined for the next one.
        SweepBench x = right(2, Bounds.TEXT, 1, 1);
        Check.put(x, Bounds.TEXT);
        due("8: the same text again", x.read(1), 0);
        due("22: the same circuit", x.verdict(), 1);
    }

    /** Terms: "4 a literal that is used .. above 2 M + 1". */
    private static void useAbove() {
        fault("aag 3 2 0 1 1\n2\n4\n8\n6 2 4\n", 4, 18);
        fault("aag 3 2 0 1 1\n2\n4\n9\n6 2 4\n", 4, 18);
        fault("aag 3 2 0 1 1\n2\n4\n7\n6 8 4\n", 4, 22);
        fault("aag 3 2 0 1 1\n2\n4\n7\n6 2 8\n", 4, 24);
        fault("aag 3 2 0 1 1\n2\n4\n8", 4, 18);
        fault("aag 1000 2 0 1 0\n2\n4\n2002\n", 4, 21);
        fault("aag 2 2 0 1 0\n2\n4\n6\n", 4, 18);
    }

    /** Terms: "above 2 M + 1": that one is not above. */
    private static void useHighest() {
        right(2, "aag 3 2 0 1 1\n2\n6\n7\n4 2 7\n", 1, 1);
        right(2, "aag 3 2 0 1 1\n2\n6\n7\n4 7 2\n", 1, 1);
        right(2, "aag 2 2 0 1 0\n2\n4\n5\n", 0, 1);
        right(2, "aag 1000 2 0 1 0\n2\n2000\n2001\n", 0, 1);
        fault("aag 1000 2 0 1 0\n2\n4\n2001\n", 5, 21);
    }

    /** Terms: "FAULTS, the first along the text": of 1, 3 and 4. */
    private static void firstAlongTheText() {
        fault("aag 3 2 0 1 1\n3\n4\n9\n7 9 9\nx", 3, 14);
        fault("aag 3 2 0 1 1\n2\n4\n9\n7 9 9\nx", 4, 18);
        fault("aag 3 2 0 1 1\n2\n4\n7\n7 9 9\nx", 3, 20);
        fault("aag 3 2 0 1 1\n2\n4\n7\n6 9 9\nx", 4, 22);
        fault("aag 3 2 0 1 1\n2\n4\n7\n6 7 9\nx", 4, 24);
        fault("aag 3 2 0 1 1\n2\n4\n7\n6 7 6\nx", 1, 26);
        fault("aag 3 2 0 1 1\n2\nx\n9\n7 9 9\n", 1, 16);
        fault("aag 3 2 0 1 1\n2x\n9\n9\n7 9 9\n", 1, 15);
        // "asked ahead of what is behind it".
        fault("aag 3 2 0 1 1\n3x", 3, 14);
        fault("aag 3 2 0 1 1\n2\n4\n8x", 4, 18);
        fault("aag 3 2 0 1 1\n2\n4\n7\n6 8x", 4, 22);
    }

    /** Terms: "Of literals used that nothing defines: 5 .. at the first of these". */
    private static void usedButNotDefined() {
        fault("aag 4 2 0 1 1\n2\n4\n8\n6 9 8\n", 5, 18);
        fault("aag 4 2 0 1 1\n2\n4\n9\n6 2 4\n", 5, 18);
        fault("aag 4 2 0 1 1\n2\n4\n6\n6 9 8\n", 5, 22);
        fault("aag 4 2 0 1 1\n2\n4\n6\n6 2 8\n", 5, 24);
        fault("aag 5 2 0 2 2\n2\n4\n6\n10\n6 2 4\n8 2 4\n", 5, 20);
        fault("aag 5 2 0 1 2\n2\n4\n6\n6 2 4\n8 2 11\n", 5, 30);
        fault("aag 3 2 0 1 0\n4\n6\n2\n", 5, 18);
        fault("aag 3 2 0 1 0\n4\n6\n3\n", 5, 18);
        // 0 and 1 need nothing that defines them, and what a later AND defines is defined.
        right(2, "aag 3 2 0 2 1\n2\n4\n0\n1\n6 0 1\n", 2, 2);
        right(2, "aag 4 2 0 1 2\n2\n4\n8\n6 9 2\n8 2 4\n", 2, 1);
    }

    /** Terms: "5, behind all others". */
    private static void notDefinedBehindAllOthers() {
        fault("aag 4 2 0 1 1\n2\n4\n8\n6 2 4\nx", 1, 26);
        fault("aag 4 2 0 1 1\n2\n4\n8\n6 2 4", 1, 25);
        fault("aag 4 2 0 1 1\n2\n4\n8\n7 2 4\n", 3, 20);
        fault("aag 4 2 0 1 1\n2\n4\n8\n6 2 10\n", 4, 24);
    }

    /** Terms: "6 ANDs that need themselves .. at the first AND's first literal": itself. */
    private static void needsItself() {
        fault("aag 3 2 0 1 1\n2\n4\n7\n6 6 4\n", 6, 20);
        fault("aag 3 2 0 1 1\n2\n4\n7\n6 4 7\n", 6, 20);
        fault("aag 3 2 0 0 1\n2\n4\n6 7 6\n", 6, 18);
        // Though a side of it is false.
        fault("aag 3 2 0 0 1\n2\n4\n6 0 6\n", 6, 18);
        fault("aag 4 2 0 0 2\n2\n4\n6 2 4\n8 8 6\n", 6, 24);
        fault("aag 4 2 0 0 2\n2\n4\n8 8 2\n6 6 2\n", 6, 18);
    }

    /** Terms: "itself or by others that it needs"; an AND that needs such ones does not need itself. */
    private static void needsItselfByOthers() {
        fault("aag 4 2 0 0 2\n2\n4\n6 8 2\n8 6 2\n", 6, 18);
        fault("aag 5 2 0 0 3\n2\n4\n6 8 2\n8 10 2\n10 7 2\n", 6, 18);
        fault("aag 5 2 0 0 3\n2\n4\n6 8 2\n8 10 2\n10 9 2\n", 6, 24);
        fault("aag 5 2 0 0 3\n2\n4\n6 8 2\n8 10 2\n10 10 2\n", 6, 31);
        StringBuilder ring = new StringBuilder("aag 121 2 0 0 119\n2\n4\n");
        for (int j = 0; j < 119; j++) {
            ring.append(6 + 2 * j).append(' ').append(6 + 2 * ((j + 118) % 119)).append(" 2\n");
        }
        fault(ring.toString(), 6, 22);
    }

    /** Terms: "6 .. behind 5". */
    private static void needsItselfBehindNotDefined() {
        fault("aag 5 2 0 0 2\n2\n4\n6 6 2\n8 10 2\n", 5, 26);
        fault("aag 4 2 0 0 1\n2\n4\n6 6 8\n", 5, 22);
    }

    /** Terms: "0 is a GATE FALSE of its own .. if 0 or 1 is used; else there is none". */
    private static void falseIfUsed() {
        right(2, "aag 2 2 0 1 0\n2\n4\n0\n", 1, 1);
        right(2, "aag 2 2 0 1 0\n2\n4\n1\n", 1, 1);
        for (int literal = 0; literal < 2; literal++) {
            right(2, "aag 3 2 0 0 1\n2\n4\n6 " + literal + " 4\n", 2, 0);
            right(2, "aag 3 2 0 0 1\n2\n4\n6 4 " + literal + "\n", 2, 0);
        }
        right(2, "aag 3 2 0 2 1\n2\n4\n0\n1\n6 0 1\n", 2, 2);
        right(2, "aag 3 2 0 1 1\n2\n4\n2\n6 2 3\n", 1, 1);
    }

    /** Terms: "ahead of all others". */
    private static void falseAheadOfAll() {
        SweepBench x = right(2, "aag 4 2 0 2 2\n2\n4\n1\n8\n6 3 5\n8 6 1\n", 3, 2);
        due("16: signal 2 is FALSE", x.literal(0, 2), 0);
        due("16: signal 3 is the first AND", x.literal(0, 3), 6);
        due("16: signal 4 is the same, by true", x.literal(0, 4), 6);
        x.output(1, 0);
        due("21: the first output is true", x.differs(0), 0);
        due("10: true", x.value(0, ~2, 0), 1);
    }

    /** Terms: "again and again the first one along the text whose sides are there already". */
    private static void gatesInOrder() {
        SweepBench x = right(2, "aag 6 2 0 0 4\n2\n4\n6 8 2\n8 2 5\n10 3 4\n12 3 5\n", 4, 0);
        // 8, then 6 anew ahead of 10 and 12.
        int[][] sides = {{2, 5}, {2, 6}, {3, 4}, {3, 5}};
        for (int k = 0; k < sides.length; k++) {
            due("16: gate " + k, x.literal(0, 2 + k), 6 + 2 * k);
            due("15: its lesser literal", x.node(3 + k, 0), sides[k][0]);
            due("15: its greater literal", x.node(3 + k, 1), sides[k][1]);
        }
    }
}
