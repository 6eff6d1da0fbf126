import java.io.File;
import java.io.IOException;
import java.io.UncheckedIOException;
import java.nio.file.Files;
import java.nio.file.Path;
import java.util.ArrayList;
import java.util.Comparator;
import java.util.List;
import java.util.regex.Matcher;
import java.util.regex.Pattern;
import java.util.stream.Stream;

/**
 * What README.md prints works as it is printed: the example in Java answers what stands behind its
 * lines, and the commands end well. Both run in a copy of the project, so that nothing is left in
 * this one. '.ci/run' is left out, since it is what runs this test.
 */
public final class ReadmeTest {
    private static final Pattern BLOCK = Pattern.compile("(?ms)^```(\\w+)\n(.*?)^```$");
    private static final Pattern DUE = Pattern.compile("^(.*?);\\s*// (answers|throws) (\\S+)$");

    private ReadmeTest() {
    }

    public static void main(String[] args) throws IOException, InterruptedException {
        Path room = Files.createTempDirectory("readme");
        try {
            Path copy = copyProject(room);
            int examples = 0;
            int commands = 0;
            Matcher block = BLOCK.matcher(Files.readString(Path.of("README.md")));
            while (block.find()) {
                String text = block.group(2);
                if (block.group(1).equals("java")) {
                    examples++;
                    example(copy, text);
                } else if (!text.equals(".ci/run\n")) {
                    commands++;
                    commands(copy, text);
                }
            }
            Check.due("examples", examples, 1);
            Check.due("blocks of commands", commands, 3);
        } finally {
            remove(room);
        }
        namesOfTests();
        Check.end("ReadmeTest");
    }

    /** The page names each test that there is, so that a single one can be run by its name. */
    private static void namesOfTests() throws IOException {
        String page = Files.readString(Path.of("README.md"));
        try (Stream<Path> files = Files.list(Path.of("src", "test", "java"))) {
            for (Path file : files.sorted().toList()) {
                String name = file.getFileName().toString().replace(".java", "");
                Check.due("the page names " + name, page.contains("`" + name + "`"), true);
            }
        }
    }

    private static void example(Path copy, String text)
            throws IOException, InterruptedException {
        List<String> program = new ArrayList<>();
        program.add("public final class ReadmeExample {");
        program.add("public static void main(String[] args) {");
        for (String line : text.lines().toList()) {
            Matcher due = DUE.matcher(line);
            program.add(due.matches() ? checked(due) : line);
        }
        program.add("Check.end(\"the example of README.md\");");
        program.add("}");
        program.add("}");
        Path directory = Files.createDirectory(copy.resolve("example"));
        Files.write(directory.resolve("ReadmeExample.java"), program);
        commands(copy, "javac -d example src/main/java/GroupTables.java src/test/java/Check.java"
                + " example/ReadmeExample.java\n"
                + "java -cp example ReadmeExample\n");
    }

    private static String checked(Matcher due) {
        String call = due.group(1);
        String label = "\"" + call + "\", ";
        if (due.group(2).equals("throws")) {
            return "Check.throwsDue(" + label + "\"" + due.group(3) + "\", () -> " + call + ");";
        }
        int equals = call.indexOf(" = ");
        if (equals < 0) {
            return "Check.due(" + label + call + ", " + due.group(3) + ");";
        }
        String name = call.substring(call.lastIndexOf(' ', equals - 1) + 1, equals);
        return call + "; Check.due(" + label + name + ", " + due.group(3) + ");";
    }

    private static void commands(Path directory, String text)
            throws IOException, InterruptedException {
        Process process = new ProcessBuilder("sh", "-e", "-c", text).directory(directory.toFile())
                .redirectErrorStream(true).redirectOutput(directory.resolve("told").toFile())
                .start();
        int code = process.waitFor();
        Check.due("exit code of " + text, code, 0);
        if (code != 0) {
            System.out.println(Files.readString(directory.resolve("told")));
        }
    }

    /** A copy of what the commands need, with ../shared beside it. */
    private static Path copyProject(Path room) throws IOException {
        Path copy = Files.createDirectory(room.resolve("main"));
        try (Stream<Path> files = Files.walk(Path.of("src"))) {
            for (Path file : files.toList()) {
                Files.copy(file, copy.resolve(file));
            }
        }
        Files.createSymbolicLink(room.resolve("shared"), Path.of("..", "shared").toRealPath());
        return copy;
    }

    private static void remove(Path room) throws IOException {
        try (Stream<Path> files = Files.walk(room)) {
            files.sorted(Comparator.reverseOrder()).map(Path::toFile).forEach(File::delete);
        } catch (UncheckedIOException thrown) {
            System.out.println("left behind: " + room);
        }
    }
}
