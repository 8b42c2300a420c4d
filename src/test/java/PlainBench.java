import java.util.ArrayList;
import java.util.Arrays;
import java.util.Collections;
import java.util.Comparator;
import java.util.HashMap;
import java.util.HashSet;
import java.util.List;
import java.util.Map;
import java.util.Set;
import java.util.TreeSet;

/**
 * The document once more, as slowly and plainly as it can be said, for runs of calls to be held against:
 * values by the GATES and not by the graph, SIGNS as texts, everything made anew at each question.
 */
final class PlainBench {
    static final int NONE = -1;

    private static final class Fault extends RuntimeException {
        private static final long serialVersionUID = 1L;
        final int kind;
        final int place;

        Fault(int kind, int place) {
            this.kind = kind;
            this.place = place;
        }
    }

    private int n = 4;
    private final List<List<int[]>> gates = List.of(new ArrayList<>(), new ArrayList<>());
    private final List<List<Integer>> outs = List.of(new ArrayList<>(), new ArrayList<>());
    private final List<Integer> vectors = new ArrayList<>();
    private final List<Integer> tape = new ArrayList<>();
    private int place = NONE;
    private int[] sweptLiterals = null;
    private int[] toldNumbers = null;

    private List<int[]> nodes = null;
    private List<List<Integer>> literals = null;
    private boolean[][] nodeValues = null;

    boolean inputs(int count) {
        if (count < 1 || count > 12) {
            return false;
        }
        n = count;
        for (int c = 0; c < 2; c++) {
            gates.get(c).clear();
            outs.get(c).clear();
        }
        vectors.clear();
        changed();
        return true;
    }

    int gate(int circuit, int kind, int a, int b, int c) {
        if (circuit < 0 || circuit > 1 || kind < 0 || kind > 8 || gates.get(circuit).size() == 120) {
            return NONE;
        }
        int takes = kind == 8 ? 0 : kind >= 6 ? 3 : 2;
        int[] sides = {a, b, c};
        for (int i = 0; i < takes; i++) {
            if (!there(circuit, sides[i])) {
                return NONE;
            }
        }
        gates.get(circuit).add(new int[] {kind, a, b, c});
        changed();
        return n + gates.get(circuit).size() - 1;
    }

    int output(int circuit, int s) {
        if (circuit < 0 || circuit > 1 || !there(circuit, s) || outs.get(circuit).size() == 10) {
            return NONE;
        }
        outs.get(circuit).add(s);
        changed();
        return outs.get(circuit).size() - 1;
    }

    int clear(int circuit) {
        if (circuit < 0 || circuit > 1) {
            return NONE;
        }
        int had = gates.get(circuit).size();
        gates.get(circuit).clear();
        outs.get(circuit).clear();
        changed();
        return had;
    }

    int feed(int a, int b, int c, int d, int e) {
        if (tape.size() + 20 > 3000) {
            return NONE;
        }
        for (int number : new int[] {a, b, c, d, e}) {
            for (int i = 3; i >= 0; i--) {
                tape.add(number >>> 8 * i & 255);
            }
        }
        return tape.size();
    }

    int end(int count) {
        if (count < 0 || count > tape.size()) {
            return NONE;
        }
        tape.subList(count, tape.size()).clear();
        return count;
    }

    int read(int circuit) {
        if (circuit < 0 || circuit > 1) {
            return NONE;
        }
        List<Integer> text = new ArrayList<>(tape);
        tape.clear();
        try {
            List<int[]> newGates = new ArrayList<>();
            List<Integer> newOuts = new ArrayList<>();
            new Reader(text, n).build(newGates, newOuts);
            gates.get(circuit).clear();
            gates.get(circuit).addAll(newGates);
            outs.get(circuit).clear();
            outs.get(circuit).addAll(newOuts);
            changed();
            place = NONE;
            return 0;
        } catch (Fault fault) {
            place = fault.place;
            return fault.kind;
        }
    }

    int place() {
        return place;
    }

    int value(int circuit, int s, int word) {
        if (circuit < 0 || circuit > 1 || !there(circuit, s) || word < 0 || word >= 1 << n) {
            return NONE;
        }
        return valueOf(circuit, s, word) ? 1 : 0;
    }

    int vector(int word) {
        if (word < 0 || word >= 1 << n || vectors.contains(word)) {
            return NONE;
        }
        vectors.add(word);
        return vectors.size();
    }

    int forget() {
        int had = vectors.size();
        vectors.clear();
        return had;
    }

    int given(int k) {
        return k >= 0 && k < vectors.size() ? vectors.get(k) : NONE;
    }

    int count(int what) {
        switch (what) {
            case 0: make(); return nodes.size();
            case 1: return n;
            case 2: return gates.get(0).size();
            case 3: return gates.get(1).size();
            case 4: return outs.get(0).size();
            case 5: return outs.get(1).size();
            case 6: return vectors.size();
            case 7: return groups().size();
            case 8: return tape.size();
            default: return NONE;
        }
    }

    int node(int k, int what) {
        make();
        if (k < 0 || k >= nodes.size()) {
            return NONE;
        }
        if (what == 2) {
            String sign = normal(sign(k));
            for (int x = 0; x <= k; x++) {
                if (normal(sign(x)).equals(sign)) {
                    return x;
                }
            }
        }
        return k > n && (what == 0 || what == 1) ? nodes.get(k)[what] : NONE;
    }

    int literal(int circuit, int s) {
        if (circuit < 0 || circuit > 1 || !there(circuit, s)) {
            return NONE;
        }
        make();
        return literalOf(circuit, s);
    }

    int sweep() {
        make();
        int found = 0;
        int asked = 0;
        int[] result = new int[nodes.size()];
        for (int x = 1; x < nodes.size(); x++) {
            while (true) {
                int candidate = candidate(x, result);
                if (candidate == NONE) {
                    result[x] = 2 * x;
                    break;
                }
                asked++;
                boolean contrary = !sign(x).equals(sign(candidate));
                int word = leastApart(x, candidate, contrary);
                if (word == NONE) {
                    result[x] = 2 * candidate + (contrary ? 1 : 0);
                    break;
                }
                vectors.add(word);
                found++;
            }
        }
        sweptLiterals = result;
        int own = 0;
        for (int x = 0; x < result.length; x++) {
            own += result[x] == 2 * x ? 1 : 0;
        }
        toldNumbers = new int[] {found, asked, neededAnds(), own};
        return result.length - own;
    }

    int swept(int k) {
        return sweptLiterals == null || k < 0 || k >= sweptLiterals.length ? NONE : sweptLiterals[k];
    }

    int told(int what) {
        return toldNumbers == null || what < 0 || what > 3 ? NONE : toldNumbers[what];
    }

    int same(int i) {
        if (i < 0 || i >= outs.get(0).size() || i >= outs.get(1).size()) {
            return NONE;
        }
        return differs(i) == NONE ? 1 : 0;
    }

    int differs(int i) {
        if (i < 0 || i >= outs.get(0).size() || i >= outs.get(1).size()) {
            return NONE;
        }
        for (int word = 0; word < 1 << n; word++) {
            if (valueOf(0, outs.get(0).get(i), word) != valueOf(1, outs.get(1).get(i), word)) {
                return word;
            }
        }
        return NONE;
    }

    int verdict() {
        if (outs.get(0).size() != outs.get(1).size()) {
            return NONE;
        }
        int verdict = 1;
        for (int i = 0; i < outs.get(0).size(); i++) {
            verdict = Math.min(verdict, same(i));
        }
        return verdict;
    }

    private void changed() {
        nodes = null;
        sweptLiterals = null;
        toldNumbers = null;
    }

    private boolean there(int circuit, int s) {
        int plain = s < 0 ? -1 - s : s;
        return plain >= 0 && plain < n + gates.get(circuit).size();
    }

    private boolean valueOf(int circuit, int s, int word) {
        boolean[] known = new boolean[n + gates.get(circuit).size()];
        for (int i = 0; i < n; i++) {
            known[i] = (word >> i & 1) == 1;
        }
        for (int g = 0; g < gates.get(circuit).size(); g++) {
            int[] gate = gates.get(circuit).get(g);
            boolean a = gate[0] != 8 && of(known, gate[1]);
            boolean b = gate[0] != 8 && of(known, gate[2]);
            boolean c = (gate[0] == 6 || gate[0] == 7) && of(known, gate[3]);
            boolean v;
            switch (gate[0]) {
                case 0: v = a && b; break;
                case 1: v = a || b; break;
                case 2: v = a != b; break;
                case 3: v = !(a && b); break;
                case 4: v = !(a || b); break;
                case 5: v = a == b; break;
                case 6: v = a ? b : c; break;
                case 7: v = (a ? 1 : 0) + (b ? 1 : 0) + (c ? 1 : 0) >= 2; break;
                default: v = false;
            }
            known[n + g] = v;
        }
        return of(known, s);
    }

    private static boolean of(boolean[] known, int s) {
        return s < 0 ? !known[-1 - s] : known[s];
    }

    private void make() {
        if (nodes != null) {
            return;
        }
        nodes = new ArrayList<>();
        literals = List.of(new ArrayList<>(), new ArrayList<>());
        Map<String, Integer> known = new HashMap<>();
        for (int x = 0; x <= n; x++) {
            nodes.add(new int[] {NONE, NONE});
        }
        for (int circuit = 0; circuit < 2; circuit++) {
            for (int i = 0; i < n; i++) {
                literals.get(circuit).add(2 * i + 2);
            }
            for (int[] gate : gates.get(circuit)) {
                literals.get(circuit).add(makeGate(circuit, gate, known));
            }
        }
        nodeValues = new boolean[1 << n][];
        for (int word = 0; word < 1 << n; word++) {
            boolean[] row = new boolean[nodes.size()];
            for (int x = 1; x < row.length; x++) {
                if (x <= n) {
                    row[x] = (word >> x - 1 & 1) == 1;
                } else {
                    int p = nodes.get(x)[0];
                    int q = nodes.get(x)[1];
                    row[x] = row[p / 2] != (p % 2 == 1) && row[q / 2] != (q % 2 == 1);
                }
            }
            nodeValues[word] = row;
        }
    }

    private int makeGate(int circuit, int[] gate, Map<String, Integer> known) {
        int kind = gate[0];
        if (kind == 8) {
            return 0;
        }
        int a = literalOf(circuit, gate[1]);
        int b = literalOf(circuit, gate[2]);
        if (kind == 0 || kind == 3) {
            return and(a, b, known) ^ (kind == 3 ? 1 : 0);
        }
        if (kind == 1 || kind == 4) {
            return and(a ^ 1, b ^ 1, known) ^ (kind == 1 ? 1 : 0);
        }
        if (kind == 2 || kind == 5) {
            int one = and(a, b ^ 1, known);
            int other = and(a ^ 1, b, known);
            return and(one ^ 1, other ^ 1, known) ^ (kind == 2 ? 1 : 0);
        }
        int c = literalOf(circuit, gate[3]);
        if (kind == 6) {
            int one = and(a, b, known);
            int other = and(a ^ 1, c, known);
            return and(one ^ 1, other ^ 1, known) ^ 1;
        }
        int one = and(a, b, known);
        int none = and(a ^ 1, b ^ 1, known);
        int other = and(c, none ^ 1, known);
        return and(one ^ 1, other ^ 1, known) ^ 1;
    }

    private int and(int p, int q, Map<String, Integer> known) {
        if (p == 0 || q == 0 || p / 2 == q / 2 && p != q) {
            return 0;
        }
        if (q == p || q == 1) {
            return p;
        }
        if (p == 1) {
            return q;
        }
        String key = Math.min(p, q) + "&" + Math.max(p, q);
        if (!known.containsKey(key)) {
            known.put(key, nodes.size());
            nodes.add(new int[] {Math.min(p, q), Math.max(p, q)});
        }
        return 2 * known.get(key);
    }

    private int literalOf(int circuit, int s) {
        return s < 0 ? literals.get(circuit).get(-1 - s) ^ 1 : literals.get(circuit).get(s);
    }

    private String sign(int x) {
        StringBuilder sign = new StringBuilder();
        for (int word : vectors) {
            sign.append(nodeValues[word][x] ? '1' : '0');
        }
        return sign.toString();
    }

    private static String normal(String sign) {
        if (!sign.startsWith("1")) {
            return sign;
        }
        return sign.replace('1', 'x').replace('0', '1').replace('x', '0');
    }

    private Set<String> groups() {
        make();
        Set<String> signs = new HashSet<>();
        for (int x = 0; x < nodes.size(); x++) {
            signs.add(normal(sign(x)));
        }
        return signs;
    }

    private int candidate(int x, int[] result) {
        String sign = normal(sign(x));
        for (int c = 0; c < x; c++) {
            if (result[c] == 2 * c && normal(sign(c)).equals(sign)) {
                return c;
            }
        }
        return NONE;
    }

    private int leastApart(int x, int y, boolean contrary) {
        for (int word = 0; word < 1 << n; word++) {
            if (nodeValues[word][x] == nodeValues[word][y] == contrary) {
                return word;
            }
        }
        return NONE;
    }

    private int neededAnds() {
        Set<Integer> needed = new TreeSet<>();
        for (int circuit = 0; circuit < 2; circuit++) {
            for (int s : outs.get(circuit)) {
                need(literalOf(circuit, s), needed);
            }
        }
        int ands = 0;
        for (int x : needed) {
            ands += x > n ? 1 : 0;
        }
        return ands;
    }

    private void need(int p, Set<Integer> needed) {
        int x = sweptLiterals[p / 2] / 2;
        if (needed.add(x) && x > n) {
            need(nodes.get(x)[0], needed);
            need(nodes.get(x)[1], needed);
        }
    }

    /** ASCII AIGER, NUMBER by NUMBER. */
    private static final class Reader {
        private final List<Integer> text;
        private final int n;
        private int at = 0;
        private int numberAt = 0;

        Reader(List<Integer> text, int n) {
            this.text = text;
            this.n = n;
        }

        void build(List<int[]> gates, List<Integer> outs) {
            for (char letter : "aag".toCharArray()) {
                take(letter);
            }
            List<int[]> numbers = new ArrayList<>();
            List<Fault> faults = new ArrayList<>();
            try {
                for (int k = 0; k < 5; k++) {
                    take(' ');
                    int found = number();
                    numbers.add(new int[] {found, numberAt});
                }
                take('\n');
            } catch (Fault broken) {
                faults.add(broken);
            }
            addHeadFaults(numbers, faults);
            if (!faults.isEmpty()) {
                throw Collections.min(faults, Comparator.comparingInt(fault -> fault.place));
            }
            int[] head = numbers.stream().mapToInt(number -> number[0]).toArray();
            int highest = 2 * head[0] + 1;
            Map<Integer, Integer> inputOf = new HashMap<>();
            Map<Integer, Integer> andOf = new HashMap<>();
            for (int i = 0; i < n; i++) {
                inputOf.put(definition(highest, inputOf, andOf), i);
                take('\n');
            }
            List<int[]> uses = new ArrayList<>();
            for (int i = 0; i < head[3]; i++) {
                uses.add(use(highest));
                take('\n');
            }
            List<int[]> ands = new ArrayList<>();
            for (int j = 0; j < head[4]; j++) {
                int variable = definition(highest, inputOf, andOf);
                int where = numberAt;
                andOf.put(variable, j);
                take(' ');
                int[] left = use(highest);
                take(' ');
                int[] right = use(highest);
                take('\n');
                uses.add(left);
                uses.add(right);
                ands.add(new int[] {variable, left[0], right[0], where});
            }
            if (at != text.size()) {
                throw new Fault(1, at);
            }
            boolean constant = false;
            for (int[] use : uses) {
                int variable = use[0] / 2;
                constant = constant || variable == 0;
                if (variable != 0 && !inputOf.containsKey(variable) && !andOf.containsKey(variable)) {
                    throw new Fault(5, use[1]);
                }
            }
            askLoops(ands, andOf);
            Map<Integer, Integer> signals = new HashMap<>(inputOf);
            if (constant) {
                signals.put(0, n);
                gates.add(new int[] {8, 0, 0, 0});
            }
            order(ands, signals, gates);
            for (int i = 0; i < head[3]; i++) {
                outs.add(signal(signals, uses.get(i)[0]));
            }
        }

        /** All of them, in no order: which one is the first along the text is asked behind. */
        private void addHeadFaults(List<int[]> numbers, List<Fault> faults) {
            int known = numbers.size();
            if (known == 5 && numbers.get(4)[0] > 119) {
                faults.add(new Fault(2, numbers.get(4)[1]));
            }
            if (known == 5 && numbers.get(0)[0] < numbers.get(1)[0] + numbers.get(4)[0]) {
                faults.add(new Fault(2, numbers.get(0)[1]));
            }
            if (known > 3 && numbers.get(3)[0] > 10) {
                faults.add(new Fault(2, numbers.get(3)[1]));
            }
            if (known > 2 && numbers.get(2)[0] != 0) {
                faults.add(new Fault(2, numbers.get(2)[1]));
            }
            if (known > 1 && numbers.get(1)[0] != n) {
                faults.add(new Fault(2, numbers.get(1)[1]));
            }
            if (known > 0 && numbers.get(0)[0] > 1000) {
                faults.add(new Fault(2, numbers.get(0)[1]));
            }
        }

        private void order(List<int[]> ands, Map<Integer, Integer> signals, List<int[]> gates) {
            List<int[]> left = new ArrayList<>(ands);
            while (!left.isEmpty()) {
                int k = 0;
                while (!signals.containsKey(left.get(k)[1] / 2) || !signals.containsKey(left.get(k)[2] / 2)) {
                    k++;
                }
                int[] and = left.remove(k);
                gates.add(new int[] {0, signal(signals, and[1]), signal(signals, and[2]), 0});
                signals.put(and[0], n + gates.size() - 1);
            }
        }

        private static int signal(Map<Integer, Integer> signals, int literal) {
            int plain = signals.get(literal / 2);
            return literal % 2 == 1 ? -1 - plain : plain;
        }

        /** By closing the table of needs, Warshall's way. */
        private static void askLoops(List<int[]> ands, Map<Integer, Integer> andOf) {
            boolean[][] needs = new boolean[ands.size()][ands.size()];
            for (int j = 0; j < ands.size(); j++) {
                for (int side = 1; side <= 2; side++) {
                    Integer other = andOf.get(ands.get(j)[side] / 2);
                    if (other != null) {
                        needs[j][other] = true;
                    }
                }
            }
            for (int k = 0; k < ands.size(); k++) {
                for (int i = 0; i < ands.size(); i++) {
                    for (int j = 0; j < ands.size(); j++) {
                        needs[i][j] |= needs[i][k] && needs[k][j];
                    }
                }
            }
            for (int j = 0; j < ands.size(); j++) {
                if (needs[j][j]) {
                    throw new Fault(6, ands.get(j)[3]);
                }
            }
        }

        private int definition(int highest, Map<Integer, Integer> inputOf, Map<Integer, Integer> andOf) {
            int literal = number();
            boolean known = inputOf.containsKey(literal / 2) || andOf.containsKey(literal / 2);
            if (literal % 2 == 1 || literal < 2 || literal > highest || known) {
                throw new Fault(3, numberAt);
            }
            return literal / 2;
        }

        private int[] use(int highest) {
            int literal = number();
            if (literal > highest) {
                throw new Fault(4, numberAt);
            }
            return new int[] {literal, numberAt};
        }

        private void take(int wanted) {
            if (at >= text.size() || text.get(at) != wanted) {
                throw new Fault(1, at);
            }
            at++;
        }

        private int number() {
            numberAt = at;
            StringBuilder digits = new StringBuilder();
            while (at < text.size() && text.get(at) >= '0' && text.get(at) <= '9'
                && digits.length() < 9 && !digits.toString().equals("0")) {
                digits.append((char) (int) text.get(at));
                at++;
            }
            if (digits.length() == 0) {
                throw new Fault(1, at);
            }
            return Integer.parseInt(digits.toString());
        }
    }

    /** For messages. */
    @Override
    public String toString() {
        return "n " + n + ", gates " + Arrays.deepToString(gates.get(0).toArray()) + " and "
            + Arrays.deepToString(gates.get(1).toArray()) + ", outputs " + outs + ", vectors " + vectors;
    }
}
