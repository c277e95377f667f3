import java.io.IOException;
import java.nio.charset.StandardCharsets;
import java.nio.file.FileVisitOption;
import java.nio.file.Files;
import java.nio.file.Path;
import java.util.ArrayList;
import java.util.Comparator;
import java.util.List;
import java.util.stream.Collectors;
import java.util.stream.Stream;

/**
 * README.md as it stands: its example is compiled and prints what stands behind its lines, and its commands run, but
 * for .ci/run, which runs this. All is done in a copy, so that nothing comes into the checkout.
 */
public final class ReadmeTest {
    private static final String WHOLE = ".ci/run";
    private static final String PRINTS = "System.out.println(";
    private static final String BEHIND = "// ";

    /** Where a copy of the project is, and beside it one of what is shared. */
    private final Path project;
    private final List<String> readme;

    private ReadmeTest(Path root, Path place) throws IOException {
        project = place.resolve("main");
        copy(root.resolve("src"), project.resolve("src"));
        copy(root.resolve("tests"), project.resolve("tests"));
        copy(root.resolve("../shared/tests"), place.resolve("shared/tests"));
        readme = Files.readAllLines(root.resolve("README.md"), StandardCharsets.UTF_8);
    }

    private static List<Path> within(Path place, FileVisitOption... options) throws IOException {
        try (Stream<Path> paths = Files.walk(place, options)) {
            return paths.collect(Collectors.toList());
        }
    }

    private static void copy(Path from, Path to) throws IOException {
        for (Path path : within(from, FileVisitOption.FOLLOW_LINKS)) {
            Path copied = to.resolve(from.relativize(path).toString());
            if (Files.isDirectory(path)) {
                Files.createDirectories(copied);
            } else {
                Files.write(copied, Files.readAllBytes(path));
            }
        }
    }

    private static void remove(Path place) throws IOException {
        List<Path> paths = within(place);
        paths.sort(Comparator.reverseOrder());
        for (Path path : paths) {
            Files.delete(path);
        }
    }

    /** What stands between the fences that name a language, a list of lines for each. */
    private List<List<String>> blocks(String language) {
        List<List<String>> blocks = new ArrayList<>();
        boolean isWithin = false;
        for (String line : readme) {
            if (line.equals("```" + language)) {
                isWithin = true;
                blocks.add(new ArrayList<>());
            } else if (line.equals("```")) {
                isWithin = false;
            } else if (isWithin) {
                blocks.get(blocks.size() - 1).add(line);
            }
        }
        return blocks;
    }

    /** Runs commands in the copy, and returns what they print, with a last line that tells the exit code. */
    private List<String> printedBy(List<String> commands) throws IOException, InterruptedException {
        Process process = new ProcessBuilder("sh", "-euc", String.join("\n", commands))
                .directory(project.toFile()).redirectErrorStream(true).start();
        process.getOutputStream().close();
        String text = new String(process.getInputStream().readAllBytes(), StandardCharsets.UTF_8);
        List<String> lines = new ArrayList<>(text.lines().collect(Collectors.toList()));
        lines.add("exit " + process.waitFor());
        return lines;
    }

    /** What the example's lines say that they print, and that all ends well. */
    private static List<String> promised(List<String> example) {
        List<String> lines = new ArrayList<>();
        for (String line : example) {
            int at = line.lastIndexOf(BEHIND);
            if (line.contains(PRINTS)) {
                lines.add(at < 0 ? "nothing behind " + line : line.substring(at + BEHIND.length()));
            }
        }
        lines.add("exit 0");
        return lines;
    }

    private void look() throws IOException, InterruptedException {
        List<List<String>> examples = blocks("java");
        Check.due("examples in README.md", 1, examples::size);
        List<String> example = examples.get(0);
        Files.write(project.resolve("Example.java"), example);
        int runs = 0;
        for (List<String> commands : blocks("sh")) {
            if (commands.contains(WHOLE)) {
                Check.due("commands beside " + WHOLE, 1, commands::size);
                continue;
            }
            List<String> printed = printedBy(commands);
            if (commands.contains("java -cp build Example")) {
                Check.due("the example", promised(example), () -> printed);
                runs++;
            } else {
                Check.due(String.join("; ", commands) + " prints " + printed + " and",
                        "exit 0", () -> printed.get(printed.size() - 1));
            }
        }
        int counted = runs;
        Check.due("runs of the example", 1, () -> counted);
    }

    public static void main(String[] args) throws IOException, InterruptedException {
        Path root = Path.of(args.length > 0 ? args[0] : ".").toAbsolutePath().normalize();
        Path place = Files.createTempDirectory("readme");
        try {
            ReadmeTest test = new ReadmeTest(root, place);
            Check.due(WHOLE + " may be run", true, () -> Files.isExecutable(root.resolve(WHOLE)));
            test.look();
        } finally {
            remove(place);
        }
        Check.end();
    }
}
