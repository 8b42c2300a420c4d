import java.util.ArrayList;
import java.util.Collections;
import java.util.List;
import java.util.Random;

/** Texts of ASCII AIGER, most of them right, the others spoilt in one or two places. */
final class AigerTexts {
    private final Random random;

    AigerTexts(Random random) {
        this.random = random;
    }

    String text(int inputs) {
        String text = whole(inputs);
        if (random.nextInt(6) == 0) {
            return spoilHead(text, inputs);
        }
        int spoils = Math.max(0, random.nextInt(5) - 2);
        for (int k = 0; k < spoils; k++) {
            text = random.nextBoolean() ? spoilNumber(text) : spoilByte(text);
        }
        return text;
    }

    /** Its ANDs shuffled at times, and with loops or variables that nothing defines at times. */
    private String whole(int inputs) {
        int ands = random.nextInt(8) == 0 ? random.nextInt(30) : random.nextInt(6);
        int outs = random.nextInt(4);
        int spare = random.nextInt(3) == 0 ? random.nextInt(5) : 0;
        int variables = inputs + ands + spare;
        List<Integer> names = new ArrayList<>();
        for (int v = 1; v <= variables; v++) {
            names.add(v);
        }
        if (random.nextBoolean()) {
            Collections.shuffle(names, random);
        }
        boolean wild = random.nextInt(5) == 0;
        List<String> andLines = new ArrayList<>();
        for (int j = 0; j < ands; j++) {
            int reach = wild ? inputs + ands : inputs + j;
            andLines.add(2 * names.get(inputs + j) + " " + used(names, reach) + " " + used(names, reach) + "\n");
        }
        if (random.nextInt(3) == 0) {
            Collections.shuffle(andLines, random);
        }
        StringBuilder text = new StringBuilder();
        text.append("aag ").append(variables).append(' ').append(inputs).append(" 0 ").append(outs).append(' ')
            .append(ands).append('\n');
        for (int i = 0; i < inputs; i++) {
            text.append(2 * names.get(i)).append('\n');
        }
        for (int i = 0; i < outs; i++) {
            int reach = random.nextInt(30) == 0 ? variables : inputs + ands;
            text.append(used(names, reach)).append('\n');
        }
        for (String line : andLines) {
            text.append(line);
        }
        return text.toString();
    }

    private int used(List<Integer> names, int reach) {
        if (random.nextInt(25) == 0) {
            return random.nextInt(2);
        }
        return 2 * names.get(random.nextInt(reach)) + random.nextInt(2);
    }

    /** Several NUMBERS of the first line at once, and a byte of it at times: which FAULT is the first? */
    private String spoilHead(String text, int inputs) {
        int end = text.indexOf('\n');
        String[] numbers = text.substring(4, end).split(" ");
        String[][] others = {
            {"0", "1001", "1000", "200", String.valueOf(inputs), String.valueOf(inputs + 3)},
            {"0", String.valueOf(inputs + 1), String.valueOf(inputs - 1), "999999999"},
            {"1", "00", "7"}, {"11", "10", "0", "12345678901"}, {"120", "119", "1", "999999999", "1234567890"}};
        for (int k = 0; k < numbers.length; k++) {
            if (random.nextInt(3) == 0) {
                numbers[k] = others[k][random.nextInt(others[k].length)];
            }
        }
        String line = "aag " + String.join(" ", numbers);
        return (random.nextInt(3) == 0 ? spoilByte(line) : line) + text.substring(end);
    }

    private String spoilNumber(String text) {
        List<Integer> starts = new ArrayList<>();
        for (int i = 1; i < text.length(); i++) {
            if (Character.isDigit(text.charAt(i)) && !Character.isDigit(text.charAt(i - 1))) {
                starts.add(i);
            }
        }
        if (starts.isEmpty()) {
            return text;
        }
        int start = starts.get(random.nextInt(starts.size()));
        int end = start;
        while (end < text.length() && Character.isDigit(text.charAt(end))) {
            end++;
        }
        String[] others = {"0", "1", "2", "3", "10", "11", "119", "120", "1000", "1001", "999999999", "1234567890",
            "00", "01", "", "-1", String.valueOf(random.nextInt(40))};
        return text.substring(0, start) + others[random.nextInt(others.length)] + text.substring(end);
    }

    private String spoilByte(String text) {
        int at = random.nextInt(text.length() + 1);
        char[] others = {' ', '\n', '0', '7', 'a', '\r', (char) 0, (char) 0xB0, (char) 0xFF};
        char other = others[random.nextInt(others.length)];
        int kind = random.nextInt(4);
        if (kind == 0 || at == text.length()) {
            return text.substring(0, at) + other + text.substring(at);
        }
        if (kind == 1) {
            return text.substring(0, at) + text.substring(at + 1);
        }
        if (kind == 2) {
            return text.substring(0, at);
        }
        return text.substring(0, at) + other + text.substring(at + 1);
    }
}
