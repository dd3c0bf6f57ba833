import java.net.URL;
import java.net.URLClassLoader;
import java.nio.file.Files;
import java.nio.file.Path;
import java.util.ArrayList;
import java.util.List;
import java.util.regex.Matcher;
import java.util.regex.Pattern;
import java.util.stream.Stream;
import javax.tools.JavaCompiler;
import javax.tools.ToolProvider;

/**
 * README.md says how to use the class: its example is compiled and run, and each answer that it tells
 * behind a call ("// 3", "// throws X") is compared with the one that the class gives.
 */
public final class ReadmeTest {
    private static final Path README = Path.of("README.md");
    private static final Pattern TOLD =
        Pattern.compile("(?:int (\\w+) = )?(rows\\.\\w+\\(.*\\));\\s*// (-?\\d+|throws \\w+)\\b.*");
    private static final Pattern CALL = Pattern.compile("rows\\.(\\w+)\\(");

    public static void main(String[] args) throws Exception {
        List<String> lines = Files.readAllLines(README);
        List<String> example = exampleOf(lines);
        Due.same("README.md: an example is there", example.isEmpty() ? 0 : 1, 1);
        everyCallIsUsed(example);
        answersAreTrue(example);
        everyTestIsNamed(String.join("\n", lines));
        Due.end();
    }

    private static List<String> exampleOf(List<String> lines) {
        List<String> example = new ArrayList<>();
        int begin = lines.indexOf("```java");
        for (int k = begin + 1; begin >= 0 && k < lines.size() && !lines.get(k).equals("```"); k++) {
            example.add(lines.get(k).strip());
        }
        return example;
    }

    private static void everyCallIsUsed(List<String> example) {
        List<String> used = new ArrayList<>();
        for (String line : example) {
            Matcher call = CALL.matcher(line);
            while (call.find()) {
                used.add(call.group(1));
            }
        }
        for (java.lang.reflect.Method method : PackageRows2.class.getDeclaredMethods()) {
            if (java.lang.reflect.Modifier.isPublic(method.getModifiers())) {
                Due.same("README.md: the example uses " + method.getName(),
                    used.contains(method.getName()) ? 1 : 0, 1);
            }
        }
    }

    private static void answersAreTrue(List<String> example) throws Exception {
        StringBuilder source = new StringBuilder("public final class ReadmeUse {\n");
        source.append("public static void run(java.util.List<String> answers) {\n");
        List<String> told = new ArrayList<>();
        for (String line : example) {
            Matcher matcher = TOLD.matcher(line);
            if (matcher.matches()) {
                told.add(line.substring(0, line.indexOf("//")).strip() + " // " + matcher.group(3));
                source.append(asking(line, matcher.group(1), matcher.group(2)));
            } else {
                source.append(line).append('\n');
            }
        }
        List<String> answers = answersOf(source.append("}\n}\n").toString());
        Due.same("README.md: answers told", answers.size(), told.size());
        for (int k = 0; k < told.size() && k < answers.size(); k++) {
            boolean holds = told.get(k).endsWith("; // " + answers.get(k));
            Due.same("README.md: " + told.get(k) + " (it is " + answers.get(k) + ")", holds ? 1 : 0, 1);
        }
    }

    private static String asking(String line, String name, String call) {
        if (name != null) {
            return line + "\nanswers.add(\"\" + " + name + ");\n";
        }
        return "try { answers.add(\"\" + " + call + "); } catch (RuntimeException e) {"
            + " answers.add(\"throws \" + e.getClass().getSimpleName()); }\n";
    }

    private static List<String> answersOf(String source) throws Exception {
        Path folder = Files.createTempDirectory("readme");
        List<String> answers = new ArrayList<>();
        try {
            Path file = Files.writeString(folder.resolve("ReadmeUse.java"), source);
            JavaCompiler compiler = ToolProvider.getSystemJavaCompiler();
            int failed = compiler.run(null, null, null, "-d", folder.toString(),
                "-cp", System.getProperty("java.class.path"), file.toString());
            Due.same("README.md: the example compiles", failed, 0);
            if (failed == 0) {
                try (URLClassLoader loader = new URLClassLoader(new URL[] {folder.toUri().toURL()})) {
                    loader.loadClass("ReadmeUse").getMethod("run", List.class).invoke(null, answers);
                }
            }
        } finally {
            try (Stream<Path> left = Files.list(folder)) {
                left.forEach(path -> path.toFile().delete());
            }
            Files.delete(folder);
        }
        return answers;
    }

    private static void everyTestIsNamed(String readme) throws Exception {
        try (Stream<Path> files = Files.list(Path.of("src/test/java"))) {
            for (Path file : files.sorted().toList()) {
                String name = file.getFileName().toString().replace(".java", "");
                Due.same("README.md names " + name, readme.contains("`" + name + "`") ? 1 : 0, 1);
            }
        }
        Due.same("README.md says how to run the tests", readme.contains(".ci/run") ? 1 : 0, 1);
    }
}
