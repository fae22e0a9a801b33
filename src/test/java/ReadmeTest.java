import java.io.IOException;
import java.io.OutputStream;
import java.net.URL;
import java.net.URLClassLoader;
import java.nio.file.Files;
import java.nio.file.Path;
import java.util.ArrayList;
import java.util.List;
import java.util.function.BiConsumer;
import java.util.regex.Matcher;
import java.util.regex.Pattern;
import java.util.stream.Stream;
import javax.tools.JavaCompiler;
import javax.tools.ToolProvider;

/**
 * The Java of README.md is compiled as it stands there, and each call that it shows answers what stands behind it.
 * A block that begins with 'static' is a method; the others are one run.
 */
public final class ReadmeTest {
    private static final Pattern BLOCK = Pattern.compile("```java\n(.*?)```", Pattern.DOTALL);
    private static final Pattern SHOWN = Pattern.compile("(x\\.(\\w+)\\(.*?\\)); +// (-?\\d+|NONE|UNKNOWN|OUTSIDE|NOT|FULL)(?:: .+)?");
    private static final Pattern OTHER = Pattern.compile("LastPlace x = new LastPlace\\(\\);|tell\\(x, \"[^\"]*\"\\);");
    private static final int MOST_CALLS = 512;

    private final List<String> methods = new ArrayList<>();
    private final List<String> run = new ArrayList<>();
    private final List<String> shown = new ArrayList<>();

    public static void main(String[] args) throws Exception {
        String readme = Files.readString(Path.of("README.md"));
        ReadmeTest test = new ReadmeTest();
        test.read(readme);
        test.compare();
        test.eachCallIsShown();
        tellsOfEachTest(readme);
        Due.close();
    }

    private void read(String readme) {
        Matcher blocks = BLOCK.matcher(readme);
        while (blocks.find()) {
            if (blocks.group(1).startsWith("static ")) {
                methods.add(blocks.group(1));
            } else {
                blocks.group(1).lines().filter(line -> !line.isBlank()).forEach(this::readLine);
            }
        }
        Due.is("README.md shows calls", shown.isEmpty() ? 0 : 1, 1);
    }

    private void readLine(String line) {
        Matcher call = SHOWN.matcher(line);
        if (call.matches()) {
            shown.add(call.group(2));
            String due = call.group(3).matches("[A-Z]+") ? "LastPlace." + call.group(3) : call.group(3);
            run.add("due.accept(\"" + line.replace("\\", "\\\\").replace("\"", "\\\"") + "\", new int[] {" + call.group(1) + ", " + due + "});");
        } else {
            Due.is("README.md: '" + line + "' can be compared", OTHER.matcher(line).matches() ? 1 : 0, 1);
            run.add(line);
        }
    }

    private void compare() throws Exception {
        Path folder = Files.createTempDirectory("readme");
        Path source = folder.resolve("ReadmeRun.java");
        Files.writeString(source, "public final class ReadmeRun {\n" + String.join("\n", methods)
                + "public static void run(java.util.function.BiConsumer<String, int[]> due) {\n" + String.join("\n", run) + "\n}\n}\n");
        JavaCompiler compiler = ToolProvider.getSystemJavaCompiler();
        OutputStream told = System.out;
        int answer = compiler == null ? -1
                : compiler.run(null, told, told, "-cp", System.getProperty("java.class.path"), "-d", folder.toString(), source.toString());
        Due.is("README.md compiles", answer, 0);
        if (answer == 0) {
            try (URLClassLoader loader = new URLClassLoader(new URL[] {folder.toUri().toURL()})) {
                BiConsumer<String, int[]> due = (line, values) -> Due.is("README.md: " + line, values[0], values[1]);
                loader.loadClass("ReadmeRun").getMethod("run", BiConsumer.class).invoke(null, due);
            }
        }
        delete(folder);
        // the calls of tell() are as many as its texts have bytes
        int fed = run.stream().filter(line -> line.startsWith("tell(")).mapToInt(line -> line.length() - "tell(x, \"\");".length()).sum();
        Due.is("README.md stays within 512 calls: " + (shown.size() + fed), shown.size() + fed <= MOST_CALLS ? 1 : 0, 1);
    }

    private static void delete(Path folder) throws IOException {
        try (Stream<Path> files = Files.list(folder)) {
            for (Path file : (Iterable<Path>) files::iterator) {
                Files.delete(file);
            }
        }
        Files.delete(folder);
    }

    private void eachCallIsShown() {
        for (java.lang.reflect.Method method : LastPlace.class.getMethods()) {
            if (method.getDeclaringClass() == LastPlace.class) {
                Due.is("README.md shows " + method.getName(), shown.contains(method.getName()) ? 1 : 0, 1);
            }
        }
    }

    private static void tellsOfEachTest(String readme) throws IOException {
        Due.is("README.md tells how to run the tests", readme.contains("\n    .ci/run\n") ? 1 : 0, 1);
        try (Stream<Path> files = Files.list(Path.of("src/test/java"))) {
            files.map(file -> file.getFileName().toString()).filter(name -> name.endsWith("Test.java")).forEach(name -> {
                String test = name.substring(0, name.length() - ".java".length());
                Due.is("README.md tells of " + test, readme.contains("`" + test + "`") ? 1 : 0, 1);
            });
        }
    }
}
