import java.io.IOException;
import java.lang.reflect.InvocationTargetException;
import java.net.URL;
import java.net.URLClassLoader;
import java.nio.file.Files;
import java.nio.file.Path;
import java.util.regex.Matcher;
import java.util.regex.Pattern;
import java.util.stream.Stream;
import javax.tools.JavaCompiler;
import javax.tools.ToolProvider;

/** The example of README.md does what its comments say: each "int name = call; // number" answers that number. */
public final class ReadmeTest {
    private static final Pattern ANSWER = Pattern.compile("^int (\\w+) = (.*);\\s+// (-?\\d+)\\b.*$", Pattern.MULTILINE);
    private static final int ANSWERS = 13;

    public static void main(String[] args) throws IOException, ReflectiveOperationException {
        String example = exampleOf(Files.readString(Path.of("README.md")));
        Matcher answers = ANSWER.matcher(example);
        int met = 0;
        StringBuilder looked = new StringBuilder();
        while (answers.find()) {
            met++;
            String looking = "look(\"" + answers.group(2) + "\", \"\" + " + answers.group(1) + ", \"" + answers.group(3) + "\");";
            answers.appendReplacement(looked, Matcher.quoteReplacement(answers.group() + "\n" + looking));
        }
        answers.appendTail(looked);
        Check.look("the answers that the example tells", Integer.toString(met), Integer.toString(ANSWERS));
        run("public final class Example {\n"
                + "public static java.util.List<String[]> looked = new java.util.ArrayList<>();\n"
                + "static void look(String... row) { looked.add(row); }\n"
                + "public static void main(String[] args) {\n" + looked + "\n}\n}\n");
        Check.end("ReadmeTest");
    }

    private static String exampleOf(String readme) {
        String begin = "```java\n";
        int from = readme.indexOf(begin);
        int behind = readme.indexOf("```\n", from + begin.length());
        return from < 0 || behind < 0 ? "" : readme.substring(from + begin.length(), behind);
    }

    private static void run(String source) throws IOException, ReflectiveOperationException {
        Path folder = Files.createTempDirectory("readme");
        try {
            Path file = folder.resolve("Example.java");
            Files.writeString(file, source);
            JavaCompiler compiler = ToolProvider.getSystemJavaCompiler();
            String path = System.getProperty("java.class.path");
            int rc = compiler.run(null, System.out, System.out, "-cp", path, "-d", folder.toString(), file.toString());
            Check.look("the example compiles", Integer.toString(rc), "0");
            if (rc == 0) {
                lookAt(folder);
            }
        } finally {
            remove(folder);
        }
    }

    private static void lookAt(Path folder) throws IOException, ReflectiveOperationException {
        try (URLClassLoader loader = new URLClassLoader(new URL[] {folder.toUri().toURL()})) {
            Class<?> example = loader.loadClass("Example");
            try {
                example.getMethod("main", String[].class).invoke(null, (Object) new String[0]);
            } catch (InvocationTargetException e) {
                Check.look("the example", "throws " + e.getCause(), "nothing thrown");
            }
            for (Object each : (Iterable<?>) example.getField("looked").get(null)) {
                String[] row = (String[]) each;
                Check.look(row[0], row[1], row[2]);
            }
        }
    }

    private static void remove(Path folder) throws IOException {
        try (Stream<Path> files = Files.list(folder)) {
            for (Path file : files.toList()) {
                Files.delete(file);
            }
        }
        Files.delete(folder);
    }
}
