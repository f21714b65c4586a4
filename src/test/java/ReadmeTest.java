import java.io.IOException;
import java.nio.file.Files;
import java.nio.file.Path;
import java.util.ArrayList;
import java.util.List;
import java.util.TreeSet;
import java.util.regex.MatchResult;
import java.util.regex.Pattern;
import java.util.stream.Stream;

/** README.md: its example, taken as it stands, its tables of answers and calls, its list of tests. */
public final class ReadmeTest {
    private static final Check check = new Check();
    private static final Path SOURCE = Path.of("src/main/java/WalkHouses.java");
    private static final Path OUTPUT = Path.of("output.txt");

    public static void main(String[] args) throws IOException, InterruptedException {
        String page = Files.readString(Path.of("README.md"));
        example(page);
        names(page);
        calls(page, Files.readString(SOURCE));
        words(page);
        tests(page);
        check.end();
    }

    /** The example is put into a folder of its own, and compiled and run by the commands of the page. */
    private static void example(String page) throws IOException, InterruptedException {
        check.due("examples", all("(?m)^```java$", page).size(), 1);
        String section = between(page, "## An example", "## Tests");
        Path folder = Files.createTempDirectory("readme");
        Files.createDirectories(folder.resolve(SOURCE).getParent());
        Files.copy(SOURCE, folder.resolve(SOURCE));
        Files.writeString(folder.resolve("Example.java"), between(section, "```java\n", "```"));
        List<String> commands = all("(?m)^    (java.*)$", between(page, "## An example", "```java"));
        check.due("commands of the example", commands.size(), 2);
        for (String command : commands) {
            check.due(command, runIn(folder, command.replace("/tmp/walkhouses", "classes")), 0);
        }
        sameLines(Files.readAllLines(folder.resolve(OUTPUT)), between(section, "```text\n", "```").lines().toList());
        remove(folder);
    }

    private static int runIn(Path folder, String command) throws IOException, InterruptedException {
        ProcessBuilder process = new ProcessBuilder(command.split(" ")).directory(folder.toFile());
        process.redirectErrorStream(true).redirectOutput(folder.resolve(OUTPUT).toFile());
        int code = process.start().waitFor();
        if (code != 0) {
            System.out.println(Files.readString(folder.resolve(OUTPUT)));
        }
        return code;
    }

    private static void sameLines(List<String> printed, List<String> told) {
        check.due("lines that the example prints", printed.size(), told.size());
        for (int i = 0; i < Math.min(printed.size(), told.size()); i++) {
            check.holds("the example prints \"" + printed.get(i) + "\", README.md says \"" + told.get(i) + "\"",
                printed.get(i).equals(told.get(i)));
        }
    }

    private static void remove(Path folder) throws IOException {
        List<Path> parts;
        try (Stream<Path> walk = Files.walk(folder)) {
            parts = walk.toList();
        }
        for (int i = parts.size() - 1; i >= 0; i--) {
            Files.delete(parts.get(i));
        }
    }

    private static void names(String page) {
        check.holds("NONE", page.contains("| `WalkHouses.NONE` | " + WalkHouses.NONE + " |"));
        check.holds("BAD", page.contains("| `WalkHouses.BAD` | " + WalkHouses.BAD + " |"));
        check.holds("NOT", page.contains("| `WalkHouses.NOT` | " + WalkHouses.NOT + " |"));
        check.holds("FULL", page.contains("| `WalkHouses.FULL` | " + WalkHouses.FULL + " |"));
    }

    /** The tables have the calls of the class (FaceTest holds them against the document), in their order. */
    private static void calls(String page, String source) {
        List<String> told = all("(?m)^\\| `(\\w+\\([^)]*\\))` \\|", page);
        List<String> due = all("(?m)^    public (?:int|long) (\\w+\\([^)]*\\)) \\{", source);
        check.due("calls of the class", due.size(), 24);
        check.holds("calls of README.md " + told + ", of the class " + due, told.equals(due));
    }

    private static void words(String page) {
        check.holds("how an object is made", page.contains("    WalkHouses x = new WalkHouses();\n"));
        check.holds("for how many calls", page.contains("at most 512 calls"));
        check.holds("how the tests are run", page.contains("    .ci/run\n"));
    }

    private static void tests(String page) throws IOException {
        TreeSet<String> due = new TreeSet<>();
        try (Stream<Path> files = Files.list(Path.of("src/test/java"))) {
            files.map(file -> file.getFileName().toString()).filter(name -> name.endsWith("Test.java"))
                .forEach(name -> due.add(name.replace(".java", "")));
        }
        TreeSet<String> told = new TreeSet<>(all("`(\\w+Test)`", page));
        check.holds("tests of README.md " + told + ", in the folder " + due, told.equals(due));
    }

    /** What lies between two words, the first of each; nothing, if one is not there. */
    private static String between(String text, String from, String to) {
        int start = text.indexOf(from);
        int end = start < 0 ? -1 : text.indexOf(to, start + from.length());
        check.holds("\"" + from.strip() + "\" and \"" + to + "\" behind it", end >= 0);
        return end < 0 ? "" : text.substring(start + from.length(), end);
    }

    private static List<String> all(String pattern, String text) {
        List<String> found = new ArrayList<>();
        for (MatchResult match : Pattern.compile(pattern).matcher(text).results().toList()) {
            found.add(match.group(match.groupCount()));
        }
        return found;
    }
}
