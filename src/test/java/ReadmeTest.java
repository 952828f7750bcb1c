import java.io.IOException;
import java.io.UncheckedIOException;
import java.nio.charset.StandardCharsets;
import java.nio.file.Files;
import java.nio.file.Path;
import java.util.ArrayList;
import java.util.Comparator;
import java.util.List;
import java.util.regex.Matcher;
import java.util.regex.Pattern;
import java.util.stream.Stream;

/** README.md as it stands there: its program is written down, its commands are given, and what they print is compared. */
public final class ReadmeTest {
    private static final Pattern BLOCK = Pattern.compile("^```(\\w+)\n(.*?)^```$", Pattern.MULTILINE | Pattern.DOTALL);
    private static final Pattern PROGRAM = Pattern.compile("public final class (\\w+)");
    private static final String WHOLE_RUN = ".ci/run";

    public static void main(String[] args) throws IOException, InterruptedException {
        String readme = Files.readString(Path.of("README.md"));
        Path folder = Files.createTempDirectory("readme");
        try {
            copy(Path.of("src"), folder);
            giveCommands(blocks(readme), folder);
        } finally {
            delete(folder);
        }
        namesOf(readme);
        Check.close();
    }

    /** Each block of code: its sort, then its text. */
    private static List<String[]> blocks(String readme) {
        List<String[]> found = new ArrayList<>();
        Matcher block = BLOCK.matcher(readme);
        while (block.find()) {
            found.add(new String[] {block.group(1), block.group(2)});
        }
        return found;
    }

    private static void giveCommands(List<String[]> blocks, Path folder) throws IOException, InterruptedException {
        String printed = "";
        int given = 0;
        for (String[] block : blocks) {
            switch (block[0]) {
                case "java" -> write(block[1], folder);
                case "sh" -> {
                    printed = give(block[1].trim(), folder);
                    given++;
                }
                case "text" -> Check.is("what is printed is:\n" + printed, printed.equals(block[1]));
                default -> Check.is("a block of a known sort, not of " + block[0], false);
            }
        }
        Check.is("a program, its commands, and those of the tests", given > 2);
    }

    private static void write(String program, Path folder) throws IOException {
        Matcher name = PROGRAM.matcher(program);
        Check.is("a program has a class", name.find());
        Files.writeString(folder.resolve(name.group(1) + ".java"), program);
    }

    private static String give(String commands, Path folder) throws IOException, InterruptedException {
        if (commands.equals(WHOLE_RUN)) {
            // It runs this test, too: given here, it would never end.
            Check.is(WHOLE_RUN + " can be run", Files.isExecutable(Path.of(WHOLE_RUN)));
            return "";
        }
        Process process = new ProcessBuilder("sh", "-e", "-c", commands).directory(folder.toFile()).redirectErrorStream(true).start();
        String printed = new String(process.getInputStream().readAllBytes(), StandardCharsets.UTF_8);
        Check.eq("exit code of:\n" + commands + "\n" + printed, process.waitFor(), 0);
        return printed;
    }

    /** Every test and every call of the face is told of. */
    private static void namesOf(String readme) throws IOException {
        try (Stream<Path> files = Files.list(Path.of("src", "test", "java"))) {
            files.map(file -> file.getFileName().toString()).filter(name -> name.endsWith("Test.java"))
                .forEach(name -> isTold(readme, name.substring(0, name.length() - ".java".length())));
        }
        for (String line : FaceTest.FACE) {
            isTold(readme, line.substring(line.indexOf(' ') + 1, line.indexOf('(')));
        }
    }

    private static void isTold(String readme, String name) {
        Check.is("README.md tells of " + name, Pattern.compile("`" + name + "[`(]").matcher(readme).find());
    }

    private static void copy(Path from, Path folder) throws IOException {
        try (Stream<Path> files = Files.walk(from)) {
            for (Path file : (Iterable<Path>) files::iterator) {
                if (Files.isDirectory(file)) {
                    Files.createDirectories(folder.resolve(file));
                } else {
                    Files.copy(file, folder.resolve(file));
                }
            }
        }
    }

    private static void delete(Path folder) throws IOException {
        try (Stream<Path> files = Files.walk(folder)) {
            files.sorted(Comparator.reverseOrder()).forEach(file -> {
                try {
                    Files.delete(file);
                } catch (IOException e) {
                    throw new UncheckedIOException(e);
                }
            });
        }
    }
}
