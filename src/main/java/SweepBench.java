import java.util.Arrays;

/** A bench that asks whether two circuits over the same inputs are the same. */
public final class SweepBench {
    public static final int NONE = -1;

    private static final int FIRST_INPUT_COUNT = 4;
    private static final int MAX_INPUTS = 12;
    private static final int MAX_GATES = 120;
    private static final int MAX_OUTPUTS = 10;
    private static final int MAX_SIGNALS = MAX_INPUTS + MAX_GATES;
    private static final int CIRCUITS = 2;

    private static final int KIND_AND = 0;
    private static final int KIND_OR = 1;
    private static final int KIND_XOR = 2;
    private static final int KIND_NAND = 3;
    private static final int KIND_NOR = 4;
    private static final int KIND_XNOR = 5;
    private static final int KIND_MUX = 6;
    private static final int KIND_MAJ = 7;
    private static final int KIND_FALSE = 8;

    /** MAJ is the dearest kind: four ANDs. */
    private static final int MAX_ANDS_OF_A_GATE = 4;
    private static final int MAX_NODES = 1 + MAX_INPUTS + CIRCUITS * MAX_GATES * MAX_ANDS_OF_A_GATE;

    private static final int MAX_VECTORS = 1 << MAX_INPUTS;
    private static final int BITS = 64;
    private static final int BITS_LOG = 6;
    private static final int MAX_ROW_WORDS = MAX_VECTORS / BITS;

    private static final int MAX_TAPE = 3000;
    private static final int BYTES_OF_A_FEED = 20;
    private static final int MAX_DIGITS = 9;
    private static final int MAX_TEXT_ANDS = 119;
    private static final int MAX_VARIABLE = 1000;
    private static final int MAX_USES = MAX_OUTPUTS + 2 * MAX_TEXT_ANDS;

    private static final int HEAD_VARIABLES = 0;
    private static final int HEAD_INPUTS = 1;
    private static final int HEAD_LATCHES = 2;
    private static final int HEAD_OUTS = 3;
    private static final int HEAD_ANDS = 4;
    private static final int HEAD_NUMBERS = 5;

    private static final int BAD_BYTE = 1;
    private static final int BAD_HEAD = 2;
    private static final int BAD_DEFINITION = 3;
    private static final int BAD_USE = 4;
    private static final int NOT_DEFINED = 5;
    private static final int NEEDS_ITSELF = 6;

    private static final int APART = 0;
    private static final int ALIKE = 1;
    private static final int CONTRARY = 2;

    /** The values of inputs 0 to 5 for 64 INPUT WORDS that follow one another. */
    private static final long[] INPUT_PATTERNS = {
        0xAAAAAAAAAAAAAAAAL, 0xCCCCCCCCCCCCCCCCL, 0xF0F0F0F0F0F0F0F0L,
        0xFF00FF00FF00FF00L, 0xFFFF0000FFFF0000L, 0xFFFFFFFF00000000L
    };

    private final Circuit firstCircuit;
    private final Circuit secondCircuit;
    private final VectorSet vectors;
    private final Graph graph;
    private final Groups groups;
    private final Sweeper sweeper;
    private final Tape tape;
    private final AigerText text;
    private final AndOrder order;
    private int inputCount;
    private int faultPlace;
    private boolean groupsStand;
    private boolean sweepStands;

    public SweepBench() {
        inputCount = FIRST_INPUT_COUNT;
        firstCircuit = new Circuit(FIRST_INPUT_COUNT);
        secondCircuit = new Circuit(FIRST_INPUT_COUNT);
        vectors = new VectorSet();
        graph = new Graph(firstCircuit, secondCircuit);
        groups = new Groups();
        sweeper = new Sweeper();
        tape = new Tape();
        text = new AigerText(tape);
        order = new AndOrder(text);
        faultPlace = NONE;
        groupsStand = false;
        sweepStands = false;
    }

    public boolean inputs(int n) {
        if (n < 1 || n > MAX_INPUTS) {
            return false;
        }
        inputCount = n;
        firstCircuit.reset(n);
        secondCircuit.reset(n);
        vectors.empty();
        noteNewCircuit();
        return true;
    }

    public int gate(int circuit, int kind, int a, int b, int c) {
        Circuit owner = circuitAt(circuit);
        if (owner == null || !owner.canTake(kind, a, b, c)) {
            return NONE;
        }
        int signal = owner.addGate(kind, a, b, c);
        noteMoreOfACircuit();
        return signal;
    }

    public int output(int circuit, int s) {
        Circuit owner = circuitAt(circuit);
        if (owner == null || owner.outCount >= MAX_OUTPUTS || !owner.hasSignal(s)) {
            return NONE;
        }
        int number = owner.addOut(s);
        noteMoreOfACircuit();
        return number;
    }

    public int clear(int circuit) {
        Circuit owner = circuitAt(circuit);
        if (owner == null) {
            return NONE;
        }
        int had = owner.gateCount;
        owner.reset(inputCount);
        noteNewCircuit();
        return had;
    }

    public int feed(int a, int b, int c, int d, int e) {
        if (tape.size > MAX_TAPE - BYTES_OF_A_FEED) {
            return NONE;
        }
        tape.append(a);
        tape.append(b);
        tape.append(c);
        tape.append(d);
        tape.append(e);
        return tape.size;
    }

    public int end(int n) {
        if (n < 0 || n > tape.size) {
            return NONE;
        }
        tape.size = n;
        return n;
    }

    public int read(int circuit) {
        Circuit owner = circuitAt(circuit);
        if (owner == null) {
            return NONE;
        }
        text.parse(inputCount);
        if (text.fault == 0) {
            order.arrange();
        }
        tape.size = 0;
        if (text.fault != 0) {
            faultPlace = text.faultAt;
            return text.fault;
        }
        faultPlace = NONE;
        owner.reset(inputCount);
        order.fill(owner);
        noteNewCircuit();
        return 0;
    }

    public int place() {
        return faultPlace;
    }

    public int value(int circuit, int s, int word) {
        Circuit owner = circuitAt(circuit);
        if (owner == null || !owner.hasSignal(s) || !isInputWord(word)) {
            return NONE;
        }
        graph.bringUp();
        return graph.bitOf(owner.literalOf(s), word);
    }

    public int vector(int word) {
        if (!isInputWord(word) || vectors.has(word)) {
            return NONE;
        }
        vectors.add(word);
        groupsStand = false;
        return vectors.size;
    }

    public int forget() {
        int had = vectors.size;
        vectors.empty();
        groupsStand = false;
        return had;
    }

    public int given(int k) {
        return k >= 0 && k < vectors.size ? vectors.words[k] : NONE;
    }

    public int count(int what) {
        switch (what) {
            case 0:
                graph.bringUp();
                return graph.nodeCount;
            case 1:
                return inputCount;
            case 2:
                return firstCircuit.gateCount;
            case 3:
                return secondCircuit.gateCount;
            case 4:
                return firstCircuit.outCount;
            case 5:
                return secondCircuit.outCount;
            case 6:
                return vectors.size;
            case 7:
                graph.bringUp();
                bringUpGroups();
                return groups.leaderCount;
            case 8:
                return tape.size;
            default:
                return NONE;
        }
    }

    public int node(int k, int what) {
        graph.bringUp();
        if (k < 0 || k >= graph.nodeCount) {
            return NONE;
        }
        if (what == 2) {
            bringUpGroups();
            return groups.least[k];
        }
        if (!graph.isAnd(k)) {
            return NONE;
        }
        if (what == 0) {
            return graph.lefts[k];
        }
        return what == 1 ? graph.rights[k] : NONE;
    }

    public int literal(int circuit, int s) {
        Circuit owner = circuitAt(circuit);
        if (owner == null || !owner.hasSignal(s)) {
            return NONE;
        }
        graph.bringUp();
        return owner.literalOf(s);
    }

    public int sweep() {
        graph.bringUp();
        sweeper.run(graph, vectors);
        sweeper.findNeeded(graph, firstCircuit, secondCircuit);
        groupsStand = false;
        sweepStands = true;
        return sweeper.mergedCount;
    }

    public int swept(int k) {
        if (!sweepStands || k < 0 || k >= graph.nodeCount) {
            return NONE;
        }
        return sweeper.literals[k];
    }

    public int told(int what) {
        if (!sweepStands) {
            return NONE;
        }
        switch (what) {
            case 0:
                return sweeper.foundCount;
            case 1:
                return sweeper.askedCount;
            case 2:
                return sweeper.neededAnds;
            case 3:
                return graph.nodeCount - sweeper.mergedCount;
            default:
                return NONE;
        }
    }

    public int same(int i) {
        if (!bothHaveOut(i)) {
            return NONE;
        }
        graph.bringUp();
        return firstWordApart(i) == NONE ? 1 : 0;
    }

    public int differs(int i) {
        if (!bothHaveOut(i)) {
            return NONE;
        }
        graph.bringUp();
        return firstWordApart(i);
    }

    public int verdict() {
        if (firstCircuit.outCount != secondCircuit.outCount) {
            return NONE;
        }
        graph.bringUp();
        for (int i = 0; i < firstCircuit.outCount; i++) {
            if (firstWordApart(i) != NONE) {
                return 0;
            }
        }
        return 1;
    }

    private Circuit circuitAt(int number) {
        if (number == 0) {
            return firstCircuit;
        }
        return number == 1 ? secondCircuit : null;
    }

    private boolean isInputWord(int word) {
        return word >= 0 && word < 1 << inputCount;
    }

    private void noteMoreOfACircuit() {
        groupsStand = false;
        sweepStands = false;
    }

    private void noteNewCircuit() {
        graph.isStale = true;
        noteMoreOfACircuit();
    }

    /** The caller has brought up the graph. */
    private void bringUpGroups() {
        if (!groupsStand) {
            groups.find(graph, vectors);
            groupsStand = true;
        }
    }

    private boolean bothHaveOut(int i) {
        return i >= 0 && i < firstCircuit.outCount && i < secondCircuit.outCount;
    }

    /** The caller has asked that both circuits have OUTPUT i, and brought up the graph. */
    private int firstWordApart(int i) {
        int p = firstCircuit.literalOf(firstCircuit.outs[i]);
        int q = secondCircuit.literalOf(secondCircuit.outs[i]);
        return graph.firstWordApart(p, q);
    }

    /** GATES and OUTPUTS as they were told, and the LITERALS that the graph gave them. */
    private static final class Circuit {
        final int[] kinds = new int[MAX_GATES];
        final int[] firsts = new int[MAX_GATES];
        final int[] seconds = new int[MAX_GATES];
        final int[] thirds = new int[MAX_GATES];
        final int[] outs = new int[MAX_OUTPUTS];
        final int[] literals = new int[MAX_SIGNALS];
        int inputCount;
        int gateCount;
        int outCount;

        Circuit(int inputCount) {
            this.inputCount = inputCount;
        }

        void reset(int newInputCount) {
            inputCount = newInputCount;
            gateCount = 0;
            outCount = 0;
        }

        boolean hasSignal(int s) {
            return plain(s) < inputCount + gateCount;
        }

        boolean canTake(int kind, int a, int b, int c) {
            if (kind < KIND_AND || kind > KIND_FALSE || gateCount >= MAX_GATES) {
                return false;
            }
            if (kind == KIND_FALSE) {
                return true;
            }
            boolean takesThird = kind == KIND_MUX || kind == KIND_MAJ;
            return hasSignal(a) && hasSignal(b) && (!takesThird || hasSignal(c));
        }

        /** The caller has asked that the SIGNALS it takes are there. */
        int addGate(int kind, int a, int b, int c) {
            if (gateCount >= MAX_GATES) {
                return NONE;
            }
            kinds[gateCount] = kind;
            firsts[gateCount] = a;
            seconds[gateCount] = b;
            thirds[gateCount] = c;
            gateCount++;
            return inputCount + gateCount - 1;
        }

        /** The caller has asked that the SIGNAL is there. */
        int addOut(int s) {
            if (outCount >= MAX_OUTPUTS) {
                return NONE;
            }
            outs[outCount] = s;
            outCount++;
            return outCount - 1;
        }

        /** A SIGNAL that isn't there has none: false stands for it, as a GATE may hold what it doesn't take. */
        int literalOf(int s) {
            if (!hasSignal(s)) {
                return 0;
            }
            return s < 0 ? literals[plain(s)] ^ 1 : literals[s];
        }

        private static int plain(int s) {
            return s < 0 ? ~s : s;
        }
    }

    /** INPUT WORDS in the order they came, and as bits, so that a node's SIGN is its row under them. */
    private static final class VectorSet {
        final int[] words = new int[MAX_VECTORS];
        final long[] bits = new long[MAX_ROW_WORDS];
        final int[] usedWords = new int[MAX_ROW_WORDS];
        int usedCount;
        int size;

        void empty() {
            Arrays.fill(bits, 0L);
            usedCount = 0;
            size = 0;
        }

        boolean has(int word) {
            if (word < 0 || word >= MAX_VECTORS) {
                return false;
            }
            return (bits[word >> BITS_LOG] >>> (word & BITS - 1) & 1L) != 0L;
        }

        void add(int word) {
            if (word < 0 || word >= MAX_VECTORS || size >= MAX_VECTORS || has(word)) {
                return;
            }
            int w = word >> BITS_LOG;
            if (bits[w] == 0L) {
                usedWords[usedCount] = w;
                usedCount++;
            }
            bits[w] |= 1L << (word & BITS - 1);
            words[size] = word;
            size++;
        }
    }

    /** The graph, and for each node a row: its value for every INPUT WORD. */
    private static final class Graph {
        final Circuit first;
        final Circuit second;
        final int[] lefts = new int[MAX_NODES];
        final int[] rights = new int[MAX_NODES];
        /** For each LITERAL the newest AND that has it as its lesser one; 0 ends the chain. */
        final int[] chains = new int[2 * MAX_NODES];
        final int[] nexts = new int[MAX_NODES];
        long[] rows = new long[MAX_NODES];
        int rowWords;
        int inputCount;
        int nodeCount;
        int firstMade;
        int secondMade;
        boolean isStale = true;

        Graph(Circuit first, Circuit second) {
            this.first = first;
            this.second = second;
        }

        /** Only what is missing is made; but a GATE more of circuit 0 moves what circuit 1 has made. */
        void bringUp() {
            boolean isOvertaken = firstMade < first.gateCount && secondMade > 0;
            if (isStale || isOvertaken) {
                restart(first.inputCount);
            }
            for (; firstMade < first.gateCount; firstMade++) {
                makeGate(first, firstMade);
            }
            for (; secondMade < second.gateCount; secondMade++) {
                makeGate(second, secondMade);
            }
        }

        boolean isAnd(int x) {
            return x > inputCount && x < nodeCount;
        }

        int bitOf(int p, int word) {
            return (int) (wordOf(p, word >> BITS_LOG) >>> (word & BITS - 1) & 1L);
        }

        /** The least INPUT WORD for which two LITERALS are not the same. */
        int firstWordApart(int p, int q) {
            for (int w = 0; w < rowWords; w++) {
                long parted = wordOf(p, w) ^ wordOf(q, w);
                if (parted != 0L) {
                    return w * BITS + Long.bitCount((parted & -parted) - 1L);
                }
            }
            return NONE;
        }

        /** How the SIGNS of two nodes are; without VECTORS they count as the same. */
        int likeness(int x, int y, VectorSet vectors) {
            boolean alike = true;
            boolean contrary = true;
            for (int k = 0; k < vectors.usedCount; k++) {
                int w = vectors.usedWords[k];
                long asked = vectors.bits[w];
                long parted = (rows[x * rowWords + w] ^ rows[y * rowWords + w]) & asked;
                alike = alike && parted == 0L;
                contrary = contrary && parted == asked;
                if (!alike && !contrary) {
                    return APART;
                }
            }
            return alike ? ALIKE : CONTRARY;
        }

        private void restart(int inputs) {
            inputCount = inputs;
            rowWords = inputs <= BITS_LOG ? 1 : 1 << inputs - BITS_LOG;
            // Rows are kept as short as the inputs allow: most benches never need the long ones.
            if (rows.length < MAX_NODES * rowWords) {
                rows = new long[MAX_NODES * rowWords];
            }
            nodeCount = 0;
            firstMade = 0;
            secondMade = 0;
            makeFalse();
            for (int i = 0; i < inputs; i++) {
                makeInput(i);
                first.literals[i] = 2 * (i + 1);
                second.literals[i] = 2 * (i + 1);
            }
            isStale = false;
        }

        private void makeFalse() {
            for (int w = 0; w < rowWords; w++) {
                rows[w] = 0L;
            }
            addNode(0, 0);
        }

        private void makeInput(int i) {
            int at = nodeCount * rowWords;
            for (int w = 0; w < rowWords; w++) {
                if (i < BITS_LOG) {
                    rows[at + w] = INPUT_PATTERNS[i];
                } else {
                    rows[at + w] = (w >> i - BITS_LOG & 1) != 0 ? -1L : 0L;
                }
            }
            addNode(0, 0);
        }

        private void makeGate(Circuit circuit, int g) {
            int a = circuit.literalOf(circuit.firsts[g]);
            int b = circuit.literalOf(circuit.seconds[g]);
            int c = circuit.literalOf(circuit.thirds[g]);
            circuit.literals[inputCount + g] = makeKind(circuit.kinds[g], a, b, c);
        }

        private int makeKind(int kind, int a, int b, int c) {
            switch (kind) {
                case KIND_AND:
                    return makeAnd(a, b);
                case KIND_OR:
                    return makeAnd(a ^ 1, b ^ 1) ^ 1;
                case KIND_XOR:
                    return makeChoice(a, b ^ 1, b);
                case KIND_NAND:
                    return makeAnd(a, b) ^ 1;
                case KIND_NOR:
                    return makeAnd(a ^ 1, b ^ 1);
                case KIND_XNOR:
                    return makeChoice(a, b ^ 1, b) ^ 1;
                case KIND_MUX:
                    return makeChoice(a, b, c);
                case KIND_MAJ:
                    return makeMajority(a, b, c);
                default:
                    return 0;
            }
        }

        /** MUX; XOR is the same with ~b and b to choose from. */
        private int makeChoice(int a, int b, int c) {
            int chosen = makeAnd(a, b);
            int other = makeAnd(a ^ 1, c);
            return makeAnd(chosen ^ 1, other ^ 1) ^ 1;
        }

        private int makeMajority(int a, int b, int c) {
            int both = makeAnd(a, b);
            int neither = makeAnd(a ^ 1, b ^ 1);
            int withThird = makeAnd(c, neither ^ 1);
            return makeAnd(both ^ 1, withThird ^ 1) ^ 1;
        }

        private int makeAnd(int p, int q) {
            if (p == 0 || q == 0 || p == (q ^ 1)) {
                return 0;
            }
            if (q == p || q == 1) {
                return p;
            }
            if (p == 1) {
                return q;
            }
            int low = Math.min(p, q);
            int high = Math.max(p, q);
            int x = chains[low];
            for (int turn = 0; turn < MAX_NODES && x != 0; turn++) {
                if (rights[x] == high) {
                    return 2 * x;
                }
                x = nexts[x];
            }
            return addAnd(low, high);
        }

        private int addAnd(int low, int high) {
            if (nodeCount >= MAX_NODES) {
                return 0;
            }
            int x = nodeCount;
            for (int w = 0; w < rowWords; w++) {
                rows[x * rowWords + w] = wordOf(low, w) & wordOf(high, w);
            }
            addNode(low, high);
            nexts[x] = chains[low];
            chains[low] = x;
            return 2 * x;
        }

        private void addNode(int left, int right) {
            int x = nodeCount;
            lefts[x] = left;
            rights[x] = right;
            nexts[x] = 0;
            chains[2 * x] = 0;
            chains[2 * x + 1] = 0;
            nodeCount++;
        }

        private long wordOf(int p, int w) {
            long word = rows[(p >> 1) * rowWords + w];
            return (p & 1) == 0 ? word : ~word;
        }
    }

    /** The least node of each node's GROUP. */
    private static final class Groups {
        final int[] least = new int[MAX_NODES];
        final int[] leaders = new int[MAX_NODES];
        int leaderCount;

        void find(Graph graph, VectorSet vectors) {
            leaderCount = 0;
            for (int x = 0; x < graph.nodeCount; x++) {
                least[x] = leaderOf(x, graph, vectors);
                if (least[x] == x) {
                    leaders[leaderCount] = x;
                    leaderCount++;
                }
            }
        }

        private int leaderOf(int x, Graph graph, VectorSet vectors) {
            for (int k = 0; k < leaderCount; k++) {
                if (graph.likeness(leaders[k], x, vectors) != APART) {
                    return leaders[k];
                }
            }
            return x;
        }
    }

    /** A SWEEP and what it told. */
    private static final class Sweeper {
        /** Of each node the LITERAL of its REPRESENTATIVE, or its contrary, that it is. */
        final int[] literals = new int[MAX_NODES];
        final boolean[] needed = new boolean[MAX_NODES];
        int foundCount;
        int askedCount;
        int mergedCount;
        int neededAnds;

        void run(Graph graph, VectorSet vectors) {
            foundCount = 0;
            askedCount = 0;
            mergedCount = 0;
            literals[0] = 0;
            for (int x = 1; x < graph.nodeCount; x++) {
                literals[x] = representativeOf(x, graph, vectors);
                if (literals[x] != 2 * x) {
                    mergedCount++;
                }
            }
        }

        /** One way up is enough: a node that was not LIKE x stays so, whatever VECTORS come. */
        private int representativeOf(int x, Graph graph, VectorSet vectors) {
            for (int c = 0; c < x; c++) {
                if (literals[c] == 2 * c) {
                    int proved = askCandidate(c, x, graph, vectors);
                    if (proved != NONE) {
                        return proved;
                    }
                }
            }
            return 2 * x;
        }

        /** Twice at most: the very first VECTOR parts x from c as the same, and may leave it LIKE its contrary. */
        private int askCandidate(int c, int x, Graph graph, VectorSet vectors) {
            for (int turn = 0; turn < 2; turn++) {
                int likeness = graph.likeness(c, x, vectors);
                if (likeness == APART) {
                    return NONE;
                }
                askedCount++;
                int p = likeness == CONTRARY ? 2 * c + 1 : 2 * c;
                int word = graph.firstWordApart(p, 2 * x);
                if (word == NONE) {
                    return p;
                }
                vectors.add(word);
                foundCount++;
            }
            return NONE;
        }

        void findNeeded(Graph graph, Circuit first, Circuit second) {
            for (int x = 0; x < graph.nodeCount; x++) {
                needed[x] = false;
            }
            markOuts(first);
            markOuts(second);
            neededAnds = 0;
            // Downwards, as both sides of an AND, and so their REPRESENTATIVES, stand below it.
            for (int x = graph.nodeCount - 1; x > graph.inputCount; x--) {
                if (needed[x]) {
                    neededAnds++;
                    mark(graph.lefts[x]);
                    mark(graph.rights[x]);
                }
            }
        }

        private void markOuts(Circuit circuit) {
            for (int i = 0; i < circuit.outCount; i++) {
                mark(circuit.literalOf(circuit.outs[i]));
            }
        }

        private void mark(int p) {
            needed[literals[p >> 1] >> 1] = true;
        }
    }

    /** Bytes that wait to be read. */
    private static final class Tape {
        final byte[] bytes = new byte[MAX_TAPE];
        int size;

        /** The highest byte first; the caller has asked for room. */
        void append(int number) {
            for (int shift = 24; shift >= 0 && size < MAX_TAPE; shift -= 8) {
                bytes[size] = (byte) (number >> shift);
                size++;
            }
        }

        /** NONE stands for the end, as no byte is below 0. */
        int byteAt(int at) {
            return at >= 0 && at < size ? bytes[at] & 0xFF : NONE;
        }

        boolean hasDigitAt(int at) {
            int found = byteAt(at);
            return found >= '0' && found <= '9';
        }
    }

    /** What a TAPE tells as ASCII AIGER, up to its first FAULT. */
    private static final class AigerText {
        final Tape tape;
        final int[] head = new int[HEAD_NUMBERS];
        final int[] headPlaces = new int[HEAD_NUMBERS];
        /** Of each variable: 0 nothing, 1 .. n the inputs, above n the ANDs along the text. */
        final int[] definers = new int[MAX_VARIABLE + 1];
        /** LITERALS used, along the text: of the OUTPUTS, then two of each AND. */
        final int[] uses = new int[MAX_USES];
        final int[] usePlaces = new int[MAX_USES];
        final int[] andPlaces = new int[MAX_TEXT_ANDS];
        int headCount;
        int inputCount;
        int outCount;
        int andCount;
        int useCount;
        int highestLiteral;
        boolean usesConstant;
        int fault;
        int faultAt;
        private int at;
        private int numberAt;

        AigerText(Tape tape) {
            this.tape = tape;
        }

        void parse(int inputs) {
            startAnew(inputs);
            parseHead();
            parseInputLines();
            parseOutLines();
            parseAndLines();
            if (at < tape.size) {
                fail(BAD_BYTE, at);
            }
            findNotDefined();
        }

        /** The first FAULT that is met stays. */
        void fail(int kind, int where) {
            if (fault == 0) {
                fault = kind;
                faultAt = where;
            }
        }

        /** The AND that a literal is of, NONE for inputs and 0. */
        int andOf(int aigerLiteral) {
            int definer = definers[aigerLiteral >> 1];
            return definer > inputCount ? definer - inputCount - 1 : NONE;
        }

        /** The literal on one side, 0 or 1, of an AND. */
        int sideOf(int and, int side) {
            return uses[outCount + 2 * and + side];
        }

        private void startAnew(int inputs) {
            Arrays.fill(head, 0);
            Arrays.fill(definers, 0);
            headCount = 0;
            inputCount = inputs;
            outCount = 0;
            andCount = 0;
            useCount = 0;
            highestLiteral = 0;
            usesConstant = false;
            fault = 0;
            faultAt = NONE;
            at = 0;
            numberAt = 0;
        }

        private void parseHead() {
            expect('a');
            expect('a');
            expect('g');
            for (int k = 0; k < HEAD_NUMBERS && fault == 0; k++) {
                parseHeadNumber();
            }
            askHeadNumbers();
            expect('\n');
            outCount = head[HEAD_OUTS];
            andCount = head[HEAD_ANDS];
            highestLiteral = 2 * head[HEAD_VARIABLES] + 1;
        }

        private void parseHeadNumber() {
            expect(' ');
            int number = parseNumber();
            if (fault == 0 && headCount < HEAD_NUMBERS) {
                head[headCount] = number;
                headPlaces[headCount] = numberAt;
                headCount++;
            }
        }

        /** A FAULT that ended the reading is put aside: every NUMBER that was read stands ahead of it. */
        private void askHeadNumbers() {
            for (int k = 0; k < headCount; k++) {
                if (isBadHeadNumber(k)) {
                    fault = BAD_HEAD;
                    faultAt = headPlaces[k];
                    return;
                }
            }
        }

        private boolean isBadHeadNumber(int k) {
            switch (k) {
                case HEAD_VARIABLES:
                    return head[k] > MAX_VARIABLE || hasTooFewVariables();
                case HEAD_INPUTS:
                    return head[k] != inputCount;
                case HEAD_LATCHES:
                    return head[k] != 0;
                case HEAD_OUTS:
                    return head[k] > MAX_OUTPUTS;
                default:
                    return head[k] > MAX_TEXT_ANDS;
            }
        }

        /** It can't be asked of a text that breaks off ahead of A. */
        private boolean hasTooFewVariables() {
            return headCount == HEAD_NUMBERS && head[HEAD_VARIABLES] < head[HEAD_INPUTS] + head[HEAD_ANDS];
        }

        private void parseInputLines() {
            for (int i = 0; i < inputCount && fault == 0; i++) {
                parseDefinition(i + 1);
                expect('\n');
            }
        }

        private void parseOutLines() {
            for (int i = 0; i < outCount && fault == 0; i++) {
                parseUse();
                expect('\n');
            }
        }

        private void parseAndLines() {
            for (int and = 0; and < andCount && fault == 0; and++) {
                andPlaces[and] = at;
                parseDefinition(inputCount + 1 + and);
                expect(' ');
                parseUse();
                expect(' ');
                parseUse();
                expect('\n');
            }
        }

        private void parseDefinition(int definer) {
            int found = parseNumber();
            boolean isBad = (found & 1) != 0 || found < 2 || found > highestLiteral;
            failIf(isBad || definers[found >> 1] != 0, BAD_DEFINITION, numberAt);
            if (fault == 0) {
                definers[found >> 1] = definer;
            }
        }

        private void parseUse() {
            int found = parseNumber();
            failIf(found > highestLiteral, BAD_USE, numberAt);
            if (fault == 0 && useCount < MAX_USES) {
                uses[useCount] = found;
                usePlaces[useCount] = numberAt;
                useCount++;
                usesConstant = usesConstant || found < 2;
            }
        }

        /** 0 once there is a FAULT. */
        private int parseNumber() {
            failIf(!tape.hasDigitAt(at), BAD_BYTE, at);
            if (fault != 0) {
                return 0;
            }
            numberAt = at;
            int most = tape.byteAt(at) == '0' ? 1 : MAX_DIGITS;
            int number = 0;
            for (int k = 0; k < most && tape.hasDigitAt(at); k++) {
                number = 10 * number + tape.byteAt(at) - '0';
                at++;
            }
            return number;
        }

        private void expect(int wanted) {
            failIf(tape.byteAt(at) != wanted, BAD_BYTE, at);
            if (fault == 0) {
                at++;
            }
        }

        private void failIf(boolean isBad, int kind, int where) {
            if (isBad) {
                fail(kind, where);
            }
        }

        private void findNotDefined() {
            for (int k = 0; k < useCount && fault == 0; k++) {
                int variable = uses[k] >> 1;
                failIf(variable > 0 && definers[variable] == 0, NOT_DEFINED, usePlaces[k]);
            }
        }
    }

    /** The ANDs of a text in an order in which each stands behind its sides. */
    private static final class AndOrder {
        final AigerText text;
        final int[] order = new int[MAX_TEXT_ANDS];
        final int[] ranks = new int[MAX_TEXT_ANDS];
        final int[] queue = new int[MAX_TEXT_ANDS];
        final boolean[] reached = new boolean[MAX_TEXT_ANDS];
        int queued;

        AndOrder(AigerText text) {
            this.text = text;
        }

        /** The text is one without FAULT so far; it gets one if there is no such order. */
        void arrange() {
            Arrays.fill(ranks, NONE);
            for (int rank = 0; rank < text.andCount && text.fault == 0; rank++) {
                int and = firstReady();
                if (and == NONE) {
                    failAtFirstLoop();
                } else {
                    order[rank] = and;
                    ranks[and] = rank;
                }
            }
        }

        /** The caller has asked that the text has no FAULT, and emptied the circuit. */
        void fill(Circuit circuit) {
            if (text.usesConstant) {
                circuit.addGate(KIND_FALSE, 0, 0, 0);
            }
            for (int rank = 0; rank < text.andCount; rank++) {
                int and = order[rank];
                int a = signalOf(text.sideOf(and, 0));
                int b = signalOf(text.sideOf(and, 1));
                circuit.addGate(KIND_AND, a, b, 0);
            }
            for (int i = 0; i < text.outCount; i++) {
                circuit.addOut(signalOf(text.uses[i]));
            }
        }

        private int signalOf(int aigerLiteral) {
            int variable = aigerLiteral >> 1;
            int and = text.andOf(aigerLiteral);
            int signal;
            if (variable == 0) {
                signal = text.inputCount;
            } else if (and == NONE) {
                signal = text.definers[variable] - 1;
            } else {
                signal = text.inputCount + (text.usesConstant ? 1 : 0) + ranks[and];
            }
            return (aigerLiteral & 1) == 0 ? signal : ~signal;
        }

        private int firstReady() {
            for (int and = 0; and < text.andCount; and++) {
                if (ranks[and] == NONE && isThere(text.sideOf(and, 0)) && isThere(text.sideOf(and, 1))) {
                    return and;
                }
            }
            return NONE;
        }

        private boolean isThere(int aigerLiteral) {
            int and = text.andOf(aigerLiteral);
            return and == NONE || ranks[and] != NONE;
        }

        private void failAtFirstLoop() {
            for (int and = 0; and < text.andCount && text.fault == 0; and++) {
                if (needsItself(and)) {
                    text.fail(NEEDS_ITSELF, text.andPlaces[and]);
                }
            }
        }

        private boolean needsItself(int and) {
            for (int k = 0; k < MAX_TEXT_ANDS; k++) {
                reached[k] = false;
            }
            queued = 0;
            reachSides(and);
            for (int k = 0; k < queued && k < MAX_TEXT_ANDS; k++) {
                reachSides(queue[k]);
            }
            return reached[and];
        }

        private void reachSides(int and) {
            reach(text.andOf(text.sideOf(and, 0)));
            reach(text.andOf(text.sideOf(and, 1)));
        }

        /** Each AND is queued once, so the queue has room for all. */
        private void reach(int and) {
            if (and != NONE && !reached[and] && queued < MAX_TEXT_ANDS) {
                reached[and] = true;
                queue[queued] = and;
                queued++;
            }
        }
    }
}
