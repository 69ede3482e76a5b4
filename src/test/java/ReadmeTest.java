import java.io.ByteArrayOutputStream;
import java.io.IOException;
import java.io.InputStream;
import java.nio.charset.StandardCharsets;
import java.nio.file.DirectoryStream;
import java.nio.file.Files;
import java.nio.file.Path;
import javax.tools.ToolProvider;

/** README.md: the program that it shows prints what it says, and it names every test. */
public final class ReadmeTest {
    private static final String FENCE = "```";

    private ReadmeTest() {
    }

    public static void main(String[] args) throws IOException, InterruptedException {
        String readme = Files.readString(Path.of("README.md"));
        Path made = Files.createTempDirectory("readme");
        try {
            program(readme, made);
        } finally {
            remove(made);
        }
        testsAreNamed(readme);
        Check.finish();
    }

    private static void program(String readme, Path made) throws IOException, InterruptedException {
        Path file = made.resolve("Example.java");
        Files.writeString(file, block(readme, "java"));
        ByteArrayOutputStream said = new ByteArrayOutputStream();
        int compiled = ToolProvider.getSystemJavaCompiler().run(null, said, said,
            "-Xlint:all", "-Werror", "-d", made.toString(), "src/main/java/ShoreGuards.java", file.toString());
        Check.due("README's program compiles: " + said, compiled, 0);
        if (compiled == 0) {
            String printed = run(made);
            boolean same = printed.equals(block(readme, "text"));
            Check.due("README's program prints what stands there; it prints\n" + printed, same, true);
        }
    }

    /** Runs it by itself, as README says, so that its end and its errors are seen. */
    private static String run(Path made) throws IOException, InterruptedException {
        String java = Path.of(System.getProperty("java.home"), "bin", "java").toString();
        Process process = new ProcessBuilder(java, "-cp", made.toString(), "Example").redirectErrorStream(true).start();
        String printed;
        try (InputStream in = process.getInputStream()) {
            printed = new String(in.readAllBytes(), StandardCharsets.UTF_8);
        }
        Check.due("README's program ends well", process.waitFor(), 0);
        return printed.replace("\r\n", "\n");
    }

    /** The first block of README of this sort, or nothing. */
    private static String block(String readme, String sort) {
        String open = "\n" + FENCE + sort + "\n";
        int from = readme.indexOf(open);
        int to = from < 0 ? -1 : readme.indexOf("\n" + FENCE, from + open.length());
        Check.due("README has a block of " + sort, to >= 0, true);
        return to < 0 ? "" : readme.substring(from + open.length(), to + 1);
    }

    private static void testsAreNamed(String readme) throws IOException {
        try (DirectoryStream<Path> files = Files.newDirectoryStream(Path.of("src/test/java"), "*.java")) {
            for (Path file : files) {
                String name = file.getFileName().toString().replace(".java", "");
                boolean named = readme.contains("`" + name + "`") || readme.contains("`" + name + ".java`");
                Check.due("README names " + name, named, true);
            }
        }
    }

    private static void remove(Path directory) throws IOException {
        try (DirectoryStream<Path> files = Files.newDirectoryStream(directory)) {
            for (Path file : files) {
                Files.delete(file);
            }
        }
        Files.delete(directory);
    }
}
