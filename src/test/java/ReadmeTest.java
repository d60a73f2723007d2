import java.io.IOException;
import java.nio.charset.StandardCharsets;
import java.nio.file.Files;
import java.nio.file.Path;
import java.util.Comparator;
import java.util.List;
import java.util.stream.Collectors;
import java.util.stream.Stream;

/** What README.md tells of the use is done as written, in a folder with the program alone; its list of tests is whole. */
public final class ReadmeTest {
    private static final Path README = Path.of("README.md");
    private static final Path PROGRAM = Path.of("src/main/java/Tonguetell.java");
    private static final Path TESTS = Path.of("src/test/java");
    private static final String FENCE = "```";

    public static void main(String[] args) throws IOException, InterruptedException {
        String readme = Files.readString(README, StandardCharsets.UTF_8);
        use(readme);
        tests(readme);
        Check.end();
    }

    private static void use(String readme) throws IOException, InterruptedException {
        Check.sentence("README: How to use it");
        Path folder = Files.createTempDirectory("readme");
        try {
            Path program = folder.resolve(PROGRAM);
            Files.createDirectories(program.getParent());
            Files.copy(PROGRAM, program);
            Files.writeString(folder.resolve("Example.java"), block(readme, "java"), StandardCharsets.UTF_8);
            String printed = printedBy(block(readme, "sh"), folder);
            String told = block(readme, "text");
            Check.holds("that the lines print\n" + told + "and not\n" + printed + "which", printed.equals(told));
        } finally {
            delete(folder);
        }
    }

    private static void tests(String readme) throws IOException {
        Check.sentence("README: How to run its tests");
        String told = readme.substring(readme.indexOf("## How to run its tests"));
        Check.holds("that the command runs the script", block(told, "sh").equals("bash .ci/run\n"));
        Check.holds("that the script is there", Files.isExecutable(Path.of(".ci/run")));
        for (String name : names(TESTS)) {
            Check.holds("that " + name + " is told of", told.contains("`" + name + "`"));
        }
    }

    /** The lines of the first block of this kind. */
    private static String block(String readme, String kind) {
        String begin = "\n" + FENCE + kind + "\n";
        int from = readme.indexOf(begin) + begin.length();
        int to = readme.indexOf("\n" + FENCE + "\n", from - 1) + 1;
        boolean found = from >= begin.length() && to > 0;
        Check.holds("that there is a block of " + kind, found);
        return found ? readme.substring(from, to) : "";
    }

    private static String printedBy(String commands, Path folder) throws IOException, InterruptedException {
        Process shell = new ProcessBuilder("sh", "-e", "-c", commands).directory(folder.toFile())
            .redirectError(ProcessBuilder.Redirect.INHERIT).start();
        String printed = new String(shell.getInputStream().readAllBytes(), StandardCharsets.UTF_8);
        Check.due("exit code of the commands", shell.waitFor(), 0);
        return printed;
    }

    private static List<String> names(Path folder) throws IOException {
        try (Stream<Path> files = Files.list(folder)) {
            return files.map(file -> file.getFileName().toString().replace(".java", "")).sorted()
                .collect(Collectors.toList());
        }
    }

    private static void delete(Path folder) throws IOException {
        try (Stream<Path> files = Files.walk(folder)) {
            for (Path file : files.sorted(Comparator.reverseOrder()).collect(Collectors.toList())) {
                Files.delete(file);
            }
        }
    }
}
