import java.io.IOException;
import java.lang.reflect.Method;
import java.lang.reflect.Modifier;
import java.net.URL;
import java.net.URLClassLoader;
import java.nio.file.Files;
import java.nio.file.Path;
import java.util.regex.Matcher;
import java.util.regex.Pattern;

/** README.md tells the truth: its examples are compiled and run. The class's path is the first argument. */
public final class ReadmeTest {
    private static final Pattern BLOCK = Pattern.compile("(?ms)^```java\n(.*?)^```");
    private static final Pattern ANSWERED = Pattern.compile("(?m)^(.+);\\s*// (-?\\d+)\\b.*$");

    public static void main(String[] args) throws Exception {
        Path source = Path.of(args.length > 0 ? args[0] : "src/main/java/AsleepPass.java").toAbsolutePath();
        Path root = source.getParent().getParent().getParent().getParent();
        String readme = Files.readString(root.resolve("README.md"));
        runExamples(readme);
        for (Method method : AsleepPass.class.getDeclaredMethods()) {
            if (Modifier.isPublic(method.getModifiers())) {
                Check.dueTrue("README names " + method.getName(), readme.contains("`" + method.getName() + "`"));
            }
        }
        for (String part : new String[] {".ci/run", "BAD", "STATE", "FULL", "NONE", "../shared/tests"}) {
            Check.dueTrue("README tells of " + part, readme.contains(part));
        }
        everyTestIsNamed(readme, root);
        Check.finish();
    }

    private static void runExamples(String readme) throws Exception {
        StringBuilder members = new StringBuilder();
        StringBuilder steps = new StringBuilder();
        Matcher blocks = BLOCK.matcher(readme);
        while (blocks.find()) {
            String block = blocks.group(1);
            (block.startsWith("static ") ? members : steps).append(block);
        }
        Matcher answered = ANSWERED.matcher(steps);
        Check.dueTrue("README has answers", answered.results().count() > 20);
        String checked = answered.reset().replaceAll(found -> Matcher.quoteReplacement(
                "answers.add(new long[] {" + found.group(1) + ", " + found.group(2) + "L});"));
        String code = "public final class Example {\n" + members
                + "public static java.util.List<long[]> run() {\n"
                + "java.util.List<long[]> answers = new java.util.ArrayList<>();\n" + checked + "return answers;\n}\n}\n";
        answered.reset();
        for (Object answer : (java.util.List<?>) compiled(code).getMethod("run").invoke(null)) {
            answered.find();
            Check.due("README: " + answered.group(1), ((long[]) answer)[0], ((long[]) answer)[1]);
        }
    }

    private static Class<?> compiled(String code) throws Exception {
        Path out = Files.createTempDirectory("readme");
        Path file = Files.writeString(out.resolve("Example.java"), code);
        String classes = System.getProperty("java.class.path");
        Process javac = new ProcessBuilder("javac", "-cp", classes, "-d", out.toString(), file.toString())
                .inheritIO().start();
        Check.due("README's examples compile", javac.waitFor(), 0);
        Class<?> example = new URLClassLoader(new URL[] {out.toUri().toURL()}).loadClass("Example");
        // All that it needs is loaded here, so that nothing is left behind.
        example.getMethod("run");
        Files.delete(file);
        Files.delete(out.resolve("Example.class"));
        Files.delete(out);
        return example;
    }

    private static void everyTestIsNamed(String readme, Path root) throws IOException {
        try (var files = Files.list(root.resolve("src/test/java"))) {
            for (Path file : (Iterable<Path>) files::iterator) {
                String name = file.getFileName().toString().replace(".java", "");
                if (name.endsWith("Test") || name.endsWith("Edges")) {
                    Check.dueTrue("README names " + name, readme.contains("`" + name + "`"));
                }
            }
        }
    }
}
