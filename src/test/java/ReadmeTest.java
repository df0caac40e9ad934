import java.io.File;
import java.io.IOException;
import java.lang.reflect.Method;
import java.lang.reflect.Modifier;
import java.net.URL;
import java.net.URLClassLoader;
import java.nio.file.Files;
import java.nio.file.Path;
import java.util.ArrayList;
import java.util.List;
import java.util.Set;
import java.util.TreeSet;
import java.util.regex.Matcher;
import java.util.regex.Pattern;
import javax.tools.JavaCompiler;
import javax.tools.ToolProvider;

/** README.md tells each call of the face, and its examples compile as they stand and answer what stands behind them. */
public final class ReadmeTest {
    private static final Due DUE = new Due("ReadmeTest");
    private static final Pattern SHOWN =
        Pattern.compile("^(\\w+\\.(\\w+)\\(.*\\));\\s*// (-?\\d+|BAD|NO|FULL|NONE)(?=[: ]|$).*$");
    private static final Pattern TOLD = Pattern.compile("^\\| `(\\w+)\\((.*?)\\)` \\|.*$");

    public static void main(String[] args) throws Exception {
        List<String> page = Files.readAllLines(Path.of("README.md"));
        List<List<String>> examples = examplesOf(page);
        DUE.is("there are examples", examples.isEmpty() ? 0 : 1, 1);
        everyAnswerIsRead(examples);
        everyCallIsTold(page);
        everyCallIsShown(examples);
        everyTestIsTold(page);
        examplesAnswer(examples);
        DUE.end();
    }

    private static List<List<String>> examplesOf(List<String> page) {
        List<List<String>> examples = new ArrayList<>();
        boolean inside = false;
        for (String line : page) {
            if (line.equals("```java")) {
                inside = true;
                examples.add(new ArrayList<>());
            } else if (line.equals("```")) {
                inside = false;
            } else if (inside) {
                examples.get(examples.size() - 1).add(line);
            }
        }
        return examples;
    }

    /** A call that stands by itself has an answer behind it that this test can read. */
    private static void everyAnswerIsRead(List<List<String>> examples) {
        for (List<String> example : examples) {
            for (String line : example) {
                boolean call = line.startsWith("village.");
                DUE.is("an answer behind: " + line, SHOWN.matcher(line).matches() ? 1 : 0, call ? 1 : 0);
            }
        }
    }

    /** The face's calls, by name and how many numbers each takes. */
    private static Set<String> callsOfTheFace() {
        Set<String> calls = new TreeSet<>();
        for (Method method : TrialFunerals.class.getDeclaredMethods()) {
            if (Modifier.isPublic(method.getModifiers())) calls.add(method.getName() + " of " + method.getParameterCount());
        }
        return calls;
    }

    private static void everyCallIsTold(List<String> page) {
        Set<String> told = new TreeSet<>();
        for (String line : page) {
            Matcher row = TOLD.matcher(line);
            if (!row.matches()) continue;
            int numbers = row.group(2).isEmpty() ? 0 : row.group(2).split(",").length;
            DUE.is("told once: " + row.group(1), told.add(row.group(1) + " of " + numbers) ? 1 : 0, 1);
        }
        DUE.is("calls told " + told, told.equals(callsOfTheFace()) ? 1 : 0, 1);
    }

    private static void everyCallIsShown(List<List<String>> examples) {
        String all = examples.toString();
        for (String call : callsOfTheFace()) {
            String name = call.substring(0, call.indexOf(' '));
            DUE.is("an example of " + name, all.contains("village." + name + "(") ? 1 : 0, 1);
        }
        for (String answer : List.of("BAD", "NO", "FULL", "NONE")) {
            DUE.is("an example of " + answer, all.contains("// " + answer + ":") ? 1 : 0, 1);
        }
    }

    private static void everyTestIsTold(List<String> page) throws IOException {
        String all = page.toString();
        for (File file : new File("src/test/java").listFiles()) {
            String name = file.getName().replace(".java", "");
            boolean test = Files.readString(file.toPath()).contains("static void main(");
            if (test) DUE.is("told: " + name, all.contains("| `" + name + "` |") ? 1 : 0, 1);
        }
    }

    private static void examplesAnswer(List<List<String>> examples) throws Exception {
        Path folder = Files.createTempDirectory("readme");
        Path source = folder.resolve("Examples.java");
        Path compiled = folder.resolve("Examples.class");
        try {
            Files.writeString(source, classOf(examples));
            JavaCompiler compiler = ToolProvider.getSystemJavaCompiler();
            String path = System.getProperty("java.class.path");
            int status = compiler.run(null, null, null, "-cp", path, "-d", folder.toString(), source.toString());
            DUE.is("the examples compile", status, 0);
            if (status == 0) runAll(folder, examples.size());
        } finally {
            Files.deleteIfExists(compiled);
            Files.deleteIfExists(source);
            Files.deleteIfExists(folder);
        }
    }

    /** Each example is a method that answers what each of its calls answered and was to answer, in turn. */
    private static String classOf(List<List<String>> examples) {
        StringBuilder text = new StringBuilder("public final class Examples {\n");
        text.append("static final int BAD = TrialFunerals.BAD, NO = TrialFunerals.NO;\n");
        text.append("static final int FULL = TrialFunerals.FULL, NONE = TrialFunerals.NONE;\n");
        for (int k = 0; k < examples.size(); k++) {
            text.append("public static int[] example").append(k).append("() {\nint[] answers = new int[1024];\nint n = 0;\n");
            for (String line : examples.get(k)) {
                Matcher shown = SHOWN.matcher(line);
                text.append(shown.matches()
                    ? "answers[n++] = " + shown.group(1) + ";\nanswers[n++] = " + shown.group(3) + ";" : line).append('\n');
            }
            text.append("return java.util.Arrays.copyOf(answers, n);\n}\n");
        }
        return text.append("}\n").toString();
    }

    private static void runAll(Path folder, int examples) throws Exception {
        try (URLClassLoader loader = new URLClassLoader(new URL[] {folder.toUri().toURL()})) {
            Class<?> made = loader.loadClass("Examples");
            for (int k = 0; k < examples; k++) {
                int[] answers = (int[]) made.getMethod("example" + k).invoke(null);
                for (int n = 0; n + 1 < answers.length; n += 2) {
                    DUE.is("example " + (k + 1) + ", call " + (n / 2 + 1), answers[n], answers[n + 1]);
                }
            }
        }
    }
}
