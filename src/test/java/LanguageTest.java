import java.io.IOException;
import java.lang.reflect.Constructor;
import java.lang.reflect.Field;
import java.lang.reflect.Method;
import java.lang.reflect.Modifier;
import java.nio.file.Files;
import java.nio.file.Path;
import java.util.Set;
import java.util.TreeSet;
import java.util.regex.Matcher;
import java.util.regex.Pattern;

/** The class's face, and what LANGUAGE.md rules out as far as words and members show it. Run from the root. */
public final class LanguageTest {
    private static final Check CHECK = new Check();
    private static final Path SOURCE = Path.of("src/main/java/SweepBench.java");
    private static final String FACE = "boolean inputs(int) int gate(int,int,int,int,int) int output(int,int)"
        + " int clear(int) int feed(int,int,int,int,int) int end(int) int read(int) int place()"
        + " int value(int,int,int) int vector(int) int forget() int given(int) int count(int) int node(int,int)"
        + " int literal(int,int) int sweep() int swept(int) int told(int) int same(int) int differs(int)"
        + " int verdict()";

    public static void main(String[] args) throws IOException {
        face();
        innerClasses();
        words();
        methodLengths();
        CHECK.finish();
    }

    private static void face() {
        Set<String> names = new TreeSet<>();
        int publicMethods = 0;
        for (Method method : SweepBench.class.getDeclaredMethods()) {
            StringBuilder sign = new StringBuilder(method.getReturnType().getName() + " " + method.getName() + "(");
            for (Class<?> type : method.getParameterTypes()) {
                sign.append(sign.charAt(sign.length() - 1) == '(' ? "" : ",").append(type.getName());
            }
            boolean isFace = FACE.contains(sign + ")");
            CHECK.due("public if it is of the face: " + sign, Modifier.isPublic(method.getModifiers()), isFace);
            CHECK.due("or private: " + sign, Modifier.isPrivate(method.getModifiers()), !isFace);
            publicMethods += isFace ? 1 : 0;
            names.add(method.getName());
        }
        CHECK.due("methods of the face", publicMethods, 21);
        CHECK.due("names are not used twice", names.size(), SweepBench.class.getDeclaredMethods().length);
        Constructor<?>[] constructors = SweepBench.class.getDeclaredConstructors();
        CHECK.due("one constructor", constructors.length, 1);
        CHECK.due("a public one", Modifier.isPublic(constructors[0].getModifiers()), true);
        CHECK.due("a final class", Modifier.isFinal(SweepBench.class.getModifiers()), true);
        for (Field field : SweepBench.class.getDeclaredFields()) {
            boolean isPublic = field.getName().equals("NONE");
            CHECK.due("public " + field.getName(), Modifier.isPublic(field.getModifiers()), isPublic);
            CHECK.due("private " + field.getName(), Modifier.isPrivate(field.getModifiers()), !isPublic);
        }
    }

    private static void innerClasses() {
        Class<?>[] inner = SweepBench.class.getDeclaredClasses();
        CHECK.due("at most twelve classes", inner.length + 1 <= 12, true);
        for (Class<?> one : inner) {
            CHECK.due(one + " is static", Modifier.isStatic(one.getModifiers()), true);
            int fields = 0;
            for (Field field : one.getDeclaredFields()) {
                fields += Modifier.isStatic(field.getModifiers()) ? 0 : 1;
            }
            CHECK.due(one + " has some twenty fields at most", fields <= 20, true);
            for (Method method : one.getDeclaredMethods()) {
                boolean isFaceName = FACE.contains(" " + method.getName() + "(");
                CHECK.due(one + " does not use the name " + method.getName(), isFaceName, false);
            }
        }
    }

    private static String code() throws IOException {
        String source = Files.readString(SOURCE);
        return source.replaceAll("(?s)/\\*.*?\\*/", "").replaceAll("//[^\n]*", "");
    }

    private static void words() throws IOException {
        String code = code();
        String[] out = {"throw", "throws", "try", "catch", "finally", "synchronized", "assert", "package", "extends",
            "float", "double", "System", "Random", "Object", "equals", "hashCode", "toString", "Exact", "var"};
        for (String word : out) {
            CHECK.due("the word " + word, Pattern.compile("\\b" + word + "\\b").matcher(code).find(), false);
        }
        CHECK.due("no lambda", code.contains("->"), false);
        CHECK.due("no method reference", code.contains("::"), false);
        Matcher imports = Pattern.compile("import [^;]*;").matcher(code);
        while (imports.find()) {
            CHECK.due(imports.group(), imports.group().equals("import java.util.Arrays;"), true);
        }
        Matcher fills = Pattern.compile("Arrays\\.(\\w+)\\(").matcher(code);
        while (fills.find()) {
            CHECK.due("Arrays." + fills.group(1), fills.group(1).equals("fill"), true);
        }
    }

    /** A method's head is a line that opens a brace at depth 4 or 8 spaces and is no class. */
    private static void methodLengths() throws IOException {
        String[] lines = Files.readString(SOURCE).split("\n");
        for (int i = 0; i < lines.length; i++) {
            Matcher head = Pattern.compile("( {4}| {8})[a-zA-Z].*\\) \\{").matcher(lines[i]);
            if (!head.matches() || lines[i].trim().matches("(if|for|while|switch|else)\\b.*")) {
                continue;
            }
            int length = 1;
            while (!lines[i + length].equals(head.group(1) + "}")) {
                length++;
            }
            CHECK.due("short: " + lines[i].trim(), length <= 60, true);
            CHECK.due("few parameters: " + lines[i].trim(), lines[i].split(",").length <= 7, true);
        }
    }
}
