import java.io.ByteArrayOutputStream;
import java.io.IOException;
import java.io.PrintStream;
import java.net.URL;
import java.net.URLClassLoader;
import java.nio.file.Files;
import java.nio.file.Path;
import java.util.ArrayList;
import java.util.List;
import java.util.regex.Matcher;
import java.util.regex.Pattern;
import javax.tools.ToolProvider;

/** The program of README.md compiles with ParrotLog, and prints what its comments tell. */
public final class ReadmeTest {
    private static final Pattern PROGRAM = Pattern.compile("```java\n(.*?)```", Pattern.DOTALL);
    private static final Pattern PRINTED = Pattern.compile("println\\(.*\\);\\s+// (-?\\d+)");

    private ReadmeTest() {
    }

    public static void main(String[] args) throws IOException, ReflectiveOperationException {
        Matcher program = PROGRAM.matcher(Files.readString(Path.of("README.md")));
        Check.due("README.md has a program", program.find(), true);
        Path folder = Files.createTempDirectory("readme");
        Path source = folder.resolve("Broadcast.java");
        Path compiled = folder.resolve("Broadcast.class");
        Files.writeString(source, program.group(1));
        String classes = System.getProperty("java.class.path");
        int exit = ToolProvider.getSystemJavaCompiler().run(null, null, null, "-cp", classes, "-d", folder.toString(),
                source.toString());
        Check.due("the compiler of README.md's program", exit, 0);
        if (exit == 0) {
            List<String> due = dueLines(program.group(1));
            Check.due("README.md's program prints something", due.isEmpty(), false);
            Check.due("README.md's program", String.join(" ", printedBy(folder)), String.join(" ", due));
        }
        for (Path made : List.of(source, compiled, folder)) {
            Files.deleteIfExists(made);
        }
        Check.end();
    }

    private static List<String> dueLines(String program) {
        List<String> due = new ArrayList<>();
        Matcher printed = PRINTED.matcher(program);
        while (printed.find()) {
            due.add(printed.group(1));
        }
        return due;
    }

    private static List<String> printedBy(Path folder) throws IOException, ReflectiveOperationException {
        PrintStream before = System.out;
        ByteArrayOutputStream text = new ByteArrayOutputStream();
        try (URLClassLoader loader = new URLClassLoader(new URL[] {folder.toUri().toURL()})) {
            System.setOut(new PrintStream(text, true));
            loader.loadClass("Broadcast").getMethod("main", String[].class).invoke(null, (Object) new String[0]);
        } finally {
            System.setOut(before);
        }
        return text.toString().lines().toList();
    }
}
