import java.io.ByteArrayOutputStream;
import java.io.File;
import java.io.PrintStream;
import java.net.URL;
import java.net.URLClassLoader;
import java.nio.file.Files;
import java.nio.file.Path;
import java.util.List;
import java.util.stream.Collectors;
import java.util.stream.Stream;
import javax.tools.ToolProvider;

/** What README.md shows is so: its program compiles and prints what it says, and it names every test. */
final class ReadmeTest {
    private ReadmeTest() {
    }

    public static void main(String[] args) throws Exception {
        String readme = Files.readString(Path.of("README.md"));
        Due.due("what the program prints", printed(block(readme, "java")), block(readme, "text"));
        try (Stream<Path> files = Files.list(Path.of("src/test/java"))) {
            for (Path file : files.collect(Collectors.toList())) {
                String name = file.getFileName().toString().replace(".java", "");
                Due.due("README.md names " + name, readme.contains(name.endsWith("Test") ? "| " + name + " |" : "`" + name + "`"),
                        true);
            }
        }
        for (String row : rows(readme)) {
            Due.due(row + " is there", Files.exists(Path.of("src/test/java/" + row + ".java")), true);
        }
        Due.close("ReadmeTest");
    }

    private static List<String> rows(String readme) {
        return readme.lines().filter(line -> line.matches("\\| [A-Za-z]+Test \\|.*")).map(line -> line.split(" ")[1])
                .collect(Collectors.toList());
    }

    /** What stands in the only block of this language. */
    private static String block(String readme, String language) {
        String[] parts = readme.split("```" + language + "\n");
        Due.due("blocks of " + language, parts.length, 2);
        return parts[1].substring(0, parts[1].indexOf("```"));
    }

    private static String printed(String program) throws Exception {
        Path folder = Files.createTempDirectory("readme");
        Path file = Files.writeString(folder.resolve("Breakfast.java"), program);
        PrintStream out = System.out;
        ByteArrayOutputStream caught = new ByteArrayOutputStream();
        int code = ToolProvider.getSystemJavaCompiler().run(null, null, null, "-d", folder.toString(), "-cp",
                System.getProperty("java.class.path"), file.toString());
        Due.due("the program compiles", code, 0);
        try (URLClassLoader loader = new URLClassLoader(new URL[] {folder.toUri().toURL()})) {
            System.setOut(new PrintStream(caught, true));
            loader.loadClass("Breakfast").getMethod("main", String[].class).invoke(null, (Object) new String[0]);
        } finally {
            System.setOut(out);
            for (File made : folder.toFile().listFiles()) {
                Files.delete(made.toPath());
            }
            Files.delete(folder);
        }
        return caught.toString().replace("\r\n", "\n");
    }
}
