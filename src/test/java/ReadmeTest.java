import java.io.IOException;
import java.lang.reflect.InvocationTargetException;
import java.lang.reflect.Method;
import java.lang.reflect.Modifier;
import java.nio.file.Files;
import java.nio.file.Path;
import java.util.HashMap;
import java.util.HashSet;
import java.util.Map;
import java.util.Set;
import java.util.regex.Matcher;
import java.util.regex.Pattern;

/** README.md's examples, call by call: each answers what stands behind it, and no method is left out. */
public final class ReadmeTest {
    private static final Check CHECK = new Check();
    private static final Pattern EXAMPLE = Pattern.compile("(?s)```java\n(.*?)```");
    private static final Pattern CALL =
        Pattern.compile("(?:int (\\w+) = )?bench\\.(\\w+)\\(([^)]*)\\); +// = (-?\\d+)(:.*)?");
    private static final String NEW_BENCH = "SweepBench bench = new SweepBench();";

    private final SweepBench bench = new SweepBench();
    private final Map<String, Integer> names = new HashMap<>();
    private final Set<String> called;

    private ReadmeTest(Set<String> called) {
        this.called = called;
    }

    public static void main(String[] args) throws IOException, ReflectiveOperationException {
        Set<String> called = new HashSet<>();
        Matcher examples = EXAMPLE.matcher(Files.readString(Path.of("README.md")));
        int found = 0;
        while (examples.find()) {
            new ReadmeTest(called).play(examples.group(1).split("\n"));
            found++;
        }
        CHECK.due("examples", found, 3);
        for (Method method : SweepBench.class.getDeclaredMethods()) {
            if (Modifier.isPublic(method.getModifiers())) {
                CHECK.due("an example calls " + method.getName(), called.contains(method.getName()), true);
            }
        }
        CHECK.finish();
    }

    private void play(String[] lines) throws ReflectiveOperationException {
        CHECK.due("an example begins with a new bench", lines[0].startsWith(NEW_BENCH), true);
        for (int i = 1; i < lines.length; i++) {
            Matcher call = CALL.matcher(lines[i]);
            CHECK.due("a call and its answer: " + lines[i], call.matches(), true);
            if (call.matches()) {
                playCall(lines[i], call);
            }
        }
    }

    private void playCall(String line, Matcher call) throws ReflectiveOperationException {
        int answer = answer(call.group(2), call.group(3));
        CHECK.due(line, answer, Integer.parseInt(call.group(4)));
        called.add(call.group(2));
        if (call.group(1) != null) {
            names.put(call.group(1), answer);
        }
    }

    private int answer(String name, String list) throws IllegalAccessException, InvocationTargetException {
        String[] words = list.isEmpty() ? new String[0] : list.split(", ");
        Object[] arguments = new Object[words.length];
        for (int i = 0; i < words.length; i++) {
            arguments[i] = number(words[i]);
        }
        for (Method method : SweepBench.class.getDeclaredMethods()) {
            if (method.getName().equals(name)) {
                Object answer = method.invoke(bench, arguments);
                return answer instanceof Boolean ? ((Boolean) answer ? 1 : 0) : (Integer) answer;
            }
        }
        throw new IllegalArgumentException("there is no " + name);
    }

    private int number(String word) {
        if (word.startsWith("~")) {
            return ~number(word.substring(1));
        }
        return names.containsKey(word) ? names.get(word) : Integer.decode(word);
    }
}
