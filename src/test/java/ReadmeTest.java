import java.io.IOException;
import java.lang.reflect.Method;
import java.lang.reflect.Modifier;
import java.net.URL;
import java.net.URLClassLoader;
import java.nio.file.Files;
import java.nio.file.Path;
import java.util.ArrayList;
import java.util.List;
import java.util.Set;
import java.util.TreeSet;
import java.util.function.Supplier;
import java.util.regex.Matcher;
import java.util.regex.Pattern;
import java.util.stream.Collectors;
import java.util.stream.Stream;
import javax.tools.ToolProvider;

/** What README.md says is so: its example is compiled and run, and its table of tests is held against the folder. */
public final class ReadmeTest {
    private static final Pattern BLOCK = Pattern.compile("```java\n(.*?)```", Pattern.DOTALL);
    private static final Pattern CALL = Pattern.compile("((?:x\\.\\w+|tell)\\(.*\\)); *// (-?\\d+|true|false)(:.*)?");
    private static final Pattern UNANSWERED = Pattern.compile("FarStore x = new FarStore\\(\\);|x\\.falls\\((true|false)\\);");

    private static final List<String> calls = new ArrayList<>();
    private static final List<String> wanted = new ArrayList<>();

    public static void main(String[] args) throws Exception {
        String readme = Files.readString(Path.of("README.md"));
        example(readme);
        tableOfTests(readme);
        Check.finish();
    }

    private static void example(String readme) throws Exception {
        StringBuilder methods = new StringBuilder();
        StringBuilder lines = new StringBuilder();
        Matcher block = BLOCK.matcher(readme);
        while (block.find()) {
            if (block.group(1).startsWith("static")) {
                methods.append(block.group(1));
            } else {
                block.group(1).lines().forEach(line -> lines.append(asked(line)).append('\n'));
            }
        }
        everyMethodIsUsed(lines.toString());
        List<String> answers = run("public final class Readme implements java.util.function.Supplier<java.util.List<String>> {\n"
            + methods + "public java.util.List<String> get() {\n"
            + "java.util.List<String> answers = new java.util.ArrayList<>();\n" + lines + "return answers;\n}\n}\n");
        Check.due("answers of the example", calls.size(), answers.size());
        for (int i = 0; i < calls.size() && i < answers.size(); i++) {
            Check.due("README.md: " + calls.get(i), wanted.get(i), answers.get(i));
        }
    }

    /** The line as it is run: a call's answer is kept, what answers nothing stands as it is, all else is refused. */
    private static String asked(String line) {
        Matcher call = CALL.matcher(line);
        if (!call.matches()) {
            Check.due("README.md: \"" + line + "\" has its answer or needs none", true, UNANSWERED.matcher(line).matches());
            return line;
        }
        calls.add(call.group(1));
        wanted.add(call.group(2));
        return "answers.add(String.valueOf(" + call.group(1) + "));";
    }

    private static void everyMethodIsUsed(String lines) {
        for (Method method : FarStore.class.getDeclaredMethods()) {
            if (Modifier.isPublic(method.getModifiers())) {
                Check.due("README.md: a call of " + method.getName(), true, lines.contains("x." + method.getName() + "("));
            }
        }
    }

    private static List<String> run(String source) throws Exception {
        Path folder = Files.createDirectories(Path.of("build/ci/readme"));
        Path file = Files.writeString(folder.resolve("Readme.java"), source);
        int code = ToolProvider.getSystemJavaCompiler().run(null, null, null, "-cp", System.getProperty("java.class.path"),
            "-d", folder.toString(), file.toString());
        Check.due("javac of README.md's example", 0, code);
        if (code != 0) {
            return List.of();
        }
        try (URLClassLoader loader = new URLClassLoader(new URL[] {folder.toUri().toURL()})) {
            Object made = loader.loadClass("Readme").getConstructor().newInstance();
            return ((Supplier<?>) made).get() instanceof List<?> list
                ? list.stream().map(String::valueOf).collect(Collectors.toList()) : List.of();
        }
    }

    private static void tableOfTests(String readme) throws IOException {
        Set<String> named = new TreeSet<>();
        Matcher row = Pattern.compile("(?m)^\\| `(\\w+Test)` \\|").matcher(readme);
        while (row.find()) {
            named.add(row.group(1));
        }
        try (Stream<Path> files = Files.list(Path.of("src/test/java"))) {
            Set<String> there = files.map(file -> file.getFileName().toString().replace(".java", ""))
                .filter(name -> name.endsWith("Test")).collect(Collectors.toCollection(TreeSet::new));
            Check.due("README.md: the tests", there.toString(), named.toString());
        }
    }
}
