import java.io.IOException;
import java.lang.reflect.Method;
import java.lang.reflect.Modifier;
import java.net.URL;
import java.net.URLClassLoader;
import java.nio.file.Files;
import java.nio.file.Path;
import java.util.List;
import java.util.Map;
import java.util.Set;
import java.util.TreeMap;
import java.util.TreeSet;
import java.util.function.BiConsumer;
import java.util.regex.Matcher;
import java.util.regex.Pattern;
import javax.tools.JavaCompiler;
import javax.tools.ToolProvider;

/** The Java that README.md shows compiles, and its calls give the answers told behind them. */
public final class ReadmeTest {
    // A call on its own, and behind // its answer, alone or with ": " and words on it.
    private static final Pattern SHOWN =
        Pattern.compile("\\s*(sheet\\.(\\w+)\\(.*\\)); +// (-?\\d+|true|false|NONE|BAD)(: .*)?");

    private final Check check = new Check("readme");
    private final Map<Integer, String> calls = new TreeMap<>();
    private final Map<Integer, String> answers = new TreeMap<>();
    private final Set<String> methods = new TreeSet<>();
    private final Set<Integer> called = new TreeSet<>();
    private final StringBuilder program = new StringBuilder();

    public static void main(String[] args) throws IOException, ReflectiveOperationException {
        ReadmeTest test = new ReadmeTest();
        test.gather(Files.readAllLines(Path.of(args.length > 0 ? args[0] : "README.md")));
        test.everyMethodIsShown();
        test.runProgram();
        test.everyCallWasMade();
        test.check.end();
    }

    private void gather(List<String> lines) {
        boolean inJava = false;
        for (int i = 0; i < lines.size(); i++) {
            String line = lines.get(i);
            if (line.startsWith("```")) {
                inJava = line.equals("```java");
            } else if (inJava) {
                program.append(inProgram(i + 1, line)).append('\n');
            }
        }
    }

    private String inProgram(int number, String line) {
        Matcher shown = SHOWN.matcher(line);
        if (!shown.matches()) {
            check.due("is without a call: line " + number, line.contains("sheet."), false);
            return line;
        }
        calls.put(number, shown.group(1));
        answers.put(number, shown.group(3));
        methods.add(shown.group(2));
        return "answers.accept(" + number + ", " + shown.group(1) + ");";
    }

    private void everyMethodIsShown() {
        for (Method method : NoteSheet.class.getDeclaredMethods()) {
            if (Modifier.isPublic(method.getModifiers())) {
                check.due("is shown: " + method.getName(), methods.contains(method.getName()), true);
            }
        }
    }

    private void runProgram() throws IOException, ReflectiveOperationException {
        Path place = Files.createTempDirectory("readme");
        Path source = place.resolve("Shown.java");
        Path compiled = place.resolve("Shown.class");
        try {
            Files.writeString(source, "public final class Shown {\n"
                + "public static void run(java.util.function.BiConsumer<Integer, Object> answers) {\n"
                + program + "}\n}\n");
            boolean compiles = compiles(source, place);
            check.due("compiles: what is shown", compiles, true);
            if (compiles) {
                run(place);
            }
        } finally {
            Files.deleteIfExists(compiled);
            Files.deleteIfExists(source);
            Files.deleteIfExists(place);
        }
    }

    private static boolean compiles(Path source, Path place) {
        JavaCompiler compiler = ToolProvider.getSystemJavaCompiler();
        String classes = System.getProperty("java.class.path");
        return compiler != null && compiler.run(null, null, null,
            "--release", "17", "-cp", classes, "-d", place.toString(), source.toString()) == 0;
    }

    private void run(Path place) throws IOException, ReflectiveOperationException {
        BiConsumer<Integer, Object> told = this::dueAsTold;
        try (URLClassLoader loader = new URLClassLoader(new URL[] {place.toUri().toURL()})) {
            loader.loadClass("Shown").getMethod("run", BiConsumer.class).invoke(null, told);
        }
    }

    private void dueAsTold(int number, Object got) {
        called.add(number);
        String want = answers.get(number)
            .replace("NONE", String.valueOf(NoteSheet.NONE))
            .replace("BAD", String.valueOf(NoteSheet.BAD));
        check.due("line " + number + ", " + calls.get(number), String.valueOf(got), want);
    }

    private void everyCallWasMade() {
        for (int number : calls.keySet()) {
            check.due("was run: line " + number, called.contains(number), true);
        }
    }
}
