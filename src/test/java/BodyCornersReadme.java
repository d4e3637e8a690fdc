import java.io.IOException;
import java.lang.reflect.Field;
import java.lang.reflect.Method;
import java.lang.reflect.Modifier;
import java.net.URL;
import java.net.URLClassLoader;
import java.nio.file.Files;
import java.nio.file.Path;
import java.util.ArrayList;
import java.util.List;
import java.util.Set;
import java.util.TreeSet;
import java.util.regex.Matcher;
import java.util.regex.Pattern;
import java.util.stream.Stream;
import javax.tools.JavaCompiler;
import javax.tools.ToolProvider;

/**
 * Runs README.md's examples as they stand there. Each block of Java in it is a run of calls on an object x, every call
 * with its answer behind it, or a method that such runs use. The blocks are written into a class, compiled and run; a
 * line that is neither is a failure, so that no example stands there unchecked.
 */
public final class BodyCornersReadme {
    private static final Path README = Path.of("README.md");
    private static final Path OWN_TESTS = Path.of("src/test/java");
    private static final String MADE_CLASS = "ReadmeExamples";
    private static final Pattern NEW_OBJECT = Pattern.compile("BodyCorners x = new BodyCorners\\(\\);");
    private static final Pattern CALL = Pattern.compile(
            "(int (\\w+) = )?((?:x\\.\\w+|tell)\\(.*\\)); +// (-?\\d+|[A-Z]+)(: .*)?");
    private static final Pattern CONSTANT_ROW = Pattern.compile("\\| `([A-Z]+)` \\| (-?\\d+) \\| .* \\|");

    private static int passed = 0;
    private static int failed = 0;

    private static void due(String what, boolean holds) {
        if (holds) {
            passed++;
        } else {
            failed++;
            System.out.println("not so: " + what);
        }
    }

    /** The made class calls this for each answer. */
    public static void answer(int line, String call, long got, long want) {
        due("README.md line " + line + ": " + call + " answers " + want + " (it answered " + got + ")", got == want);
    }

    /** What the blocks of Java come to as one class; with them their calls and what they answer are collected. */
    private static final class Blocks {
        final StringBuilder members = new StringBuilder();
        final StringBuilder runs = new StringBuilder();
        final Set<String> calls = new TreeSet<>();
        final Set<String> answers = new TreeSet<>();
        private boolean within;
        private boolean aMember;
        private boolean first;
        private int runCount;

        void take(int line, String text) {
            if (!within) {
                within = text.equals("```java");
                first = within;
                return;
            }
            if (text.equals("```")) {
                end();
                return;
            }
            if (first) {
                begin(text);
            }
            if (aMember) {
                members.append(text).append('\n');
            } else {
                takeStep(line, text);
            }
        }

        private void begin(String text) {
            first = false;
            aMember = text.startsWith("static ");
            if (!aMember) {
                runs.append("static void run").append(runCount).append("() {\n");
                runCount++;
            }
        }

        private void end() {
            within = false;
            if (!aMember && !first) {
                runs.append("}\n");
            }
            aMember = false;
        }

        private void takeStep(int line, String text) {
            Matcher call = CALL.matcher(text);
            if (NEW_OBJECT.matcher(text).matches()) {
                runs.append(text).append('\n');
            } else if (call.matches()) {
                String named = call.group(2);
                String answer = call.group(4);
                String shown = call.group(3).replace("\\", "\\\\").replace("\"", "\\\"");
                if (named != null) {
                    runs.append(text).append('\n');
                }
                runs.append("BodyCornersReadme.answer(").append(line).append(", \"").append(shown).append("\", ")
                        .append(named == null ? call.group(3) : named).append(", ")
                        .append(Character.isLetter(answer.charAt(0)) ? "BodyCorners." + answer : answer + "L")
                        .append(");\n");
                calls.add(call.group(3).replaceAll("^x\\.|\\(.*$", ""));
                answers.add(answer);
            } else {
                due("README.md line " + line + " is a call with its answer: " + text, false);
            }
        }

        String asClass() {
            StringBuilder out = new StringBuilder("public final class " + MADE_CLASS + " {\n");
            out.append(members).append(runs).append("public static void runAll() {\n");
            for (int run = 0; run < runCount; run++) {
                out.append("run").append(run).append("();\n");
            }
            return out.append("}\n}\n").toString();
        }
    }

    private static void runMade(String source) throws IOException, ReflectiveOperationException {
        Path place = Files.createTempDirectory("readme");
        Path file = place.resolve(MADE_CLASS + ".java");
        Files.writeString(file, source);
        JavaCompiler compiler = ToolProvider.getSystemJavaCompiler();
        int outcome = compiler.run(null, null, null, "-encoding", "UTF-8", "-d", place.toString(), "-cp",
                System.getProperty("java.class.path"), file.toString());
        due("README.md's examples compile", outcome == 0);
        if (outcome == 0) {
            URL[] from = {place.toUri().toURL()};
            try (URLClassLoader loader = new URLClassLoader(from, BodyCornersReadme.class.getClassLoader())) {
                loader.loadClass(MADE_CLASS).getMethod("runAll").invoke(null);
            }
        }
        removeAll(place);
    }

    private static void removeAll(Path place) throws IOException {
        List<Path> inside = new ArrayList<>();
        try (Stream<Path> files = Files.walk(place)) {
            files.forEach(inside::add);
        }
        for (int k = inside.size() - 1; k >= 0; k--) {
            Files.delete(inside.get(k));
        }
    }

    private static void everyCallHasAnExample(Blocks blocks) {
        for (Method method : BodyCorners.class.getDeclaredMethods()) {
            if (Modifier.isPublic(method.getModifiers())) {
                due("README.md has an example of " + method.getName(), blocks.calls.contains(method.getName()));
            }
        }
    }

    private static void constantsAreTold(List<String> lines, Blocks blocks) throws IllegalAccessException {
        Set<String> told = new TreeSet<>();
        for (String line : lines) {
            Matcher row = CONSTANT_ROW.matcher(line);
            if (row.matches()) {
                told.add(row.group(1) + " " + row.group(2));
            }
        }
        Set<String> there = new TreeSet<>();
        for (Field field : BodyCorners.class.getFields()) {
            there.add(field.getName() + " " + field.getInt(null));
            due("README.md has a call that answers " + field.getName(), blocks.answers.contains(field.getName()));
        }
        due("README.md's constants " + told + " are " + there, told.equals(there));
    }

    private static void testsAreNamed(String text, Path place) throws IOException {
        List<Path> tests = new ArrayList<>();
        try (Stream<Path> files = Files.list(place)) {
            files.filter(file -> file.toString().endsWith(".java")).forEach(tests::add);
        }
        due("there are tests in " + place, !tests.isEmpty());
        for (Path test : tests) {
            String name = test.getFileName().toString().replace(".java", "");
            due("README.md names the test " + name, text.contains("`" + name + "`"));
        }
    }

    public static void main(String[] args) throws IOException, ReflectiveOperationException {
        List<String> lines = Files.readAllLines(README);
        Blocks blocks = new Blocks();
        for (int k = 0; k < lines.size(); k++) {
            blocks.take(k + 1, lines.get(k));
        }
        runMade(blocks.asClass());
        everyCallHasAnExample(blocks);
        constantsAreTold(lines, blocks);
        testsAreNamed(String.join("\n", lines), OWN_TESTS);
        due("README.md says how to run its tests", String.join("\n", lines).contains("sh .ci/run"));
        System.out.println(passed + " passed, " + failed + " failed");
        System.exit(failed == 0 ? 0 : 1);
    }
}
