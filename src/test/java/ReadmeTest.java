import java.io.IOException;
import java.nio.charset.StandardCharsets;
import java.nio.file.Files;
import java.nio.file.Path;
import java.util.concurrent.TimeUnit;

/** README.md: its program, compiled with the class, prints what stands below it. */
public final class ReadmeTest {
    private static final Path SOURCE = Path.of("src/main/java/EquationProofs.java");

    public static void main(String[] args) throws IOException, InterruptedException {
        String readme = Files.readString(Path.of("README.md"), StandardCharsets.UTF_8);
        Path folder = Files.createTempDirectory("readme");
        Path program = folder.resolve("Example.java");
        Files.writeString(program, block(readme, "java"), StandardCharsets.UTF_8);
        String path = folder.toString();
        Check.due("javac", run(folder, "javac", "-d", path, SOURCE.toString(), program.toString()), "");
        String[] got = run(folder, "java", "-cp", path, "Example").split("\n");
        String[] want = block(readme, "text").split("\n");
        for (int row = 0; row < Math.max(got.length, want.length); row++) {
            Check.due("row " + row, row < got.length ? got[row] : "nothing", row < want.length ? want[row] : "nothing");
        }
        delete(folder);
        Check.finish();
    }

    /** What stands in the first block of a language. */
    private static String block(String text, String language) {
        String fence = "```";
        int start = text.indexOf(fence + language + "\n");
        int stop = text.indexOf(fence, start + fence.length());
        Check.due("there is a block " + language, start >= 0 && stop > start ? 1 : 0, 1);
        return start >= 0 && stop > start ? text.substring(start + fence.length() + language.length() + 1, stop) : "";
    }

    private static String run(Path folder, String... command) throws IOException, InterruptedException {
        Path printed = folder.resolve("printed.txt");
        Process process = new ProcessBuilder(command).redirectErrorStream(true).redirectOutput(printed.toFile()).start();
        boolean ended = process.waitFor(2, TimeUnit.MINUTES);
        Check.due(command[0] + " ends", ended ? process.exitValue() : -1, 0);
        return Files.readString(printed, StandardCharsets.UTF_8);
    }

    private static void delete(Path folder) throws IOException {
        try (var files = Files.list(folder)) {
            for (Path file : files.toList()) {
                Files.delete(file);
            }
        }
        Files.delete(folder);
    }
}
