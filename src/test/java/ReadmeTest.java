import java.io.File;
import java.io.IOException;
import java.lang.reflect.Method;
import java.lang.reflect.Modifier;
import java.net.URL;
import java.net.URLClassLoader;
import java.nio.file.Files;
import java.nio.file.Path;
import java.util.ArrayList;
import java.util.List;
import java.util.Set;
import java.util.TreeSet;
import java.util.regex.Matcher;
import java.util.regex.Pattern;
import java.util.stream.Stream;
import javax.tools.JavaCompiler;
import javax.tools.ToolProvider;

/** README.md is so as written: its Java is compiled and run, each answer compared; its shell lines are run. */
public final class ReadmeTest {
    /** A call with its answer: the code, then a comment that begins with a number. */
    private static final Pattern ANSWERED = Pattern.compile("(.*);\\s*// (-?\\d+)(:.*)?");

    private ReadmeTest() {
    }

    private static List<String> blocks(String readme, String language) {
        List<String> found = new ArrayList<>();
        Matcher m = Pattern.compile("(?s)```" + language + "\n(.*?)```").matcher(readme);
        while (m.find()) {
            found.add(m.group(1));
        }
        return found;
    }

    /** The story of the page as a class: methods as they stand, each answered call within a comparison. */
    private static String story(String readme) {
        StringBuilder methods = new StringBuilder();
        StringBuilder body = new StringBuilder();
        for (String block : blocks(readme, "java")) {
            if (block.startsWith("static ")) {
                methods.append(block);
            } else {
                block.lines().forEach(line -> body.append(compared(line)).append('\n'));
            }
        }
        return "public final class Story {\n" + methods + "public static void run() {\n" + body + "}\n}\n";
    }

    private static String compared(String line) {
        Matcher m = ANSWERED.matcher(line);
        boolean answered = m.matches();
        Due.holds("README.md tells the answer of: " + line, answered || !line.contains("x."));
        return answered ? "ReadmeTest.due(\"" + m.group(1) + "\", " + m.group(1) + ", " + m.group(2) + ");" : line;
    }

    /** Called by the story. */
    public static void due(String call, long got, long want) {
        Due.is("README.md: " + call, got, want);
    }

    private static void runStory(String readme) throws IOException, ReflectiveOperationException {
        Path folder = Files.createTempDirectory("readme");
        Path source = folder.resolve("Story.java");
        Files.writeString(source, story(readme));
        JavaCompiler compiler = ToolProvider.getSystemJavaCompiler();
        int failed = compiler.run(null, null, null, "-Xlint:all", "-Werror", "-d", folder.toString(), "-cp",
            System.getProperty("java.class.path"), source.toString());
        Due.is("compiling the calls of README.md", failed, 0);
        if (failed == 0) {
            try (URLClassLoader loader = new URLClassLoader(new URL[] {folder.toUri().toURL()})) {
                loader.loadClass("Story").getMethod("run").invoke(null);
            }
        }
        Files.deleteIfExists(folder.resolve("Story.class"));
        Files.delete(source);
        Files.delete(folder);
    }

    private static void everyCallIsShown(String readme) {
        String shown = String.join("", blocks(readme, "java"));
        for (Method method : ObligingPosts.class.getDeclaredMethods()) {
            if (Modifier.isPublic(method.getModifiers())) {
                Due.holds("README.md shows " + method.getName(), shown.contains("x." + method.getName() + "("));
            }
        }
    }

    private static void testsAreTheseOnes(String readme) throws IOException {
        Set<String> named = new TreeSet<>();
        Matcher m = Pattern.compile("`(\\w+Test)`: ").matcher(readme);
        while (m.find()) {
            named.add(m.group(1));
        }
        Set<String> there = new TreeSet<>();
        try (Stream<Path> files = Files.list(Path.of("src/test/java"))) {
            files.map(file -> file.getFileName().toString()).filter(name -> name.endsWith("Test.java"))
                .forEach(name -> there.add(name.replace(".java", "")));
        }
        Due.holds("tests " + there + " are those named, " + named, there.equals(named));
        Due.holds("`.ci/run` is named, and can be run",
            readme.contains("`.ci/run` runs every test") && new File(".ci/run").canExecute());
    }

    private static void runShellLines(String readme) throws IOException, InterruptedException {
        List<String> shell = blocks(readme, "sh");
        Due.is("blocks of shell lines", shell.size(), 1);
        for (String lines : shell) {
            Process process = new ProcessBuilder("sh", "-eu", "-c", lines).redirectErrorStream(true).start();
            String printed = new String(process.getInputStream().readAllBytes());
            int code = process.waitFor();
            Due.is("shell lines of README.md, which print:\n" + printed, code, 0);
        }
    }

    public static void main(String[] args) throws Exception {
        String readme = Files.readString(Path.of("README.md"));
        everyCallIsShown(readme);
        runStory(readme);
        testsAreTheseOnes(readme);
        runShellLines(readme);
        Due.close();
    }
}
