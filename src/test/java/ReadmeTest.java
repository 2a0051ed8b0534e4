import java.io.ByteArrayOutputStream;
import java.io.File;
import java.io.PrintStream;
import java.net.URL;
import java.net.URLClassLoader;
import java.nio.charset.StandardCharsets;
import java.nio.file.Files;
import java.nio.file.Path;
import javax.tools.ToolProvider;

/** README.md: its program compiles and prints what is said there, and it names every test of the project. */
public final class ReadmeTest {
    private static final Check check = new Check();
    private static final Path root = Path.of(System.getProperty("root", "."));

    public static void main(String[] args) throws Exception {
        String readme = Files.readString(root.resolve("README.md"), StandardCharsets.UTF_8).replace("\r\n", "\n");
        check.due("what the program of README.md prints", printed(block(readme, "java")), block(readme, "text"));
        for (File test : root.resolve("src/test/java").toFile().listFiles()) {
            if (test.getName().endsWith("Test.java")) {
                String row = "| " + test.getName().replace(".java", "") + " |";
                check.due("README.md has the row " + row, readme.contains(row) ? 1 : 0, 1);
            }
        }
        check.end();
    }

    private static String block(String readme, String kind) {
        String mark = "```" + kind + "\n";
        int from = readme.indexOf(mark);
        int to = readme.indexOf("```", from + mark.length());
        check.due("README.md has a block of " + kind, from >= 0 && to >= 0 ? 1 : 0, 1);
        return from >= 0 && to >= 0 ? readme.substring(from + mark.length(), to) : "";
    }

    private static String printed(String program) throws Exception {
        Path folder = Files.createTempDirectory("readme");
        Path source = Files.writeString(folder.resolve("Example.java"), program, StandardCharsets.UTF_8);
        int exit = ToolProvider.getSystemJavaCompiler().run(null, null, null, "-cp", System.getProperty("java.class.path"),
                "-d", folder.toString(), source.toString());
        check.due("the exit code of javac", exit, 0);
        if (exit != 0) {
            return "";
        }
        PrintStream before = System.out;
        ByteArrayOutputStream out = new ByteArrayOutputStream();
        try (URLClassLoader loader = new URLClassLoader(new URL[] {folder.toUri().toURL()})) {
            System.setOut(new PrintStream(out, true, StandardCharsets.UTF_8));
            loader.loadClass("Example").getMethod("main", String[].class).invoke(null, (Object) new String[0]);
        } finally {
            System.setOut(before);
            Files.deleteIfExists(folder.resolve("Example.class"));
            Files.deleteIfExists(source);
            Files.deleteIfExists(folder);
        }
        return out.toString(StandardCharsets.UTF_8).replace("\r\n", "\n");
    }
}
