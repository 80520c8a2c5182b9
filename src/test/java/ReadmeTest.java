import java.io.ByteArrayOutputStream;
import java.io.IOException;
import java.io.PrintStream;
import java.net.URL;
import java.net.URLClassLoader;
import java.nio.charset.StandardCharsets;
import java.nio.file.Files;
import java.nio.file.Path;
import java.util.ArrayList;
import java.util.List;
import java.util.regex.Matcher;
import java.util.regex.Pattern;
import javax.tools.ToolProvider;

/** The example of README.md compiles and prints what its comments say. */
public final class ReadmeTest {
    private static final Pattern EXAMPLE = Pattern.compile("```java\n(.*?)```", Pattern.DOTALL);
    private static final Pattern PRINTED = Pattern.compile("System\\.out\\.println\\(.*\\); *// (\\S+).*");

    public static void main(String[] args) throws Exception {
        String readme = Files.readString(Path.of("README.md"));
        Check.due("README.md names the command that runs the tests", readme.contains("\n.ci/run\n"), true);
        Matcher example = EXAMPLE.matcher(readme);
        if (example.find()) {
            printsWhatItSays(example.group(1));
        } else {
            Check.tell("README.md has no example");
        }
        Check.end("ReadmeTest");
    }

    private static void printsWhatItSays(String source) throws Exception {
        List<String> due = new ArrayList<>();
        for (String line : source.split("\n")) {
            Matcher printed = PRINTED.matcher(line.trim());
            if (printed.matches()) {
                due.add(printed.group(1));
            }
        }
        Check.due("the example prints something", due.size() > 0, true);
        Path folder = Files.createTempDirectory("readme");
        try {
            Files.writeString(folder.resolve("Evening.java"), source);
            Check.same("what README.md's example prints", String.join("\n", printedBy(folder)), String.join("\n", due));
        } finally {
            Files.deleteIfExists(folder.resolve("Evening.java"));
            Files.deleteIfExists(folder.resolve("Evening.class"));
            Files.deleteIfExists(folder);
        }
    }

    private static List<String> printedBy(Path folder) throws Exception {
        int failed = ToolProvider.getSystemJavaCompiler().run(null, null, null,
            "-cp", System.getProperty("java.class.path"), "-d", folder.toString(),
            folder.resolve("Evening.java").toString());
        if (failed != 0) {
            return List.of("it does not compile");
        }
        PrintStream before = System.out;
        ByteArrayOutputStream told = new ByteArrayOutputStream();
        System.setOut(new PrintStream(told, true, StandardCharsets.UTF_8));
        try {
            runMain(folder);
        } finally {
            System.setOut(before);
        }
        return told.toString(StandardCharsets.UTF_8).lines().toList();
    }

    private static void runMain(Path folder) throws IOException, ReflectiveOperationException {
        try (URLClassLoader loader = new URLClassLoader(new URL[] {folder.toUri().toURL()})) {
            loader.loadClass("Evening").getMethod("main", String[].class).invoke(null, (Object) new String[0]);
        }
    }

    private ReadmeTest() {
    }
}
