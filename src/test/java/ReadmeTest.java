import java.io.IOException;
import java.lang.reflect.Method;
import java.lang.reflect.Modifier;
import java.nio.file.DirectoryStream;
import java.nio.file.Files;
import java.nio.file.Path;
import java.util.ArrayList;
import java.util.List;
import java.util.Set;
import java.util.TreeSet;
import java.util.regex.Matcher;
import java.util.regex.Pattern;

/** README.md: each call that it shows answers what stands behind it, its commands run, and its tables are whole. */
public final class ReadmeTest {
    private static final Path README = Path.of("README.md");
    private static final Path TESTS = Path.of("src/test/java");
    // A line of an example: perhaps a variable, a call, and behind it the answer or the exception.
    private static final Pattern SHOWN =
            Pattern.compile("(?:\\w+ (\\w+) = )?(land\\.\\w+\\(.*\\)); +// ([-\\w]+)(?::.*)?");
    // A row of a table: its first column, and the next one.
    private static final Pattern ROW = Pattern.compile("\\| (.*?) \\| (.*) \\|");
    private static final Pattern QUOTED = Pattern.compile("`(\\w+)`");

    private static final List<String> WRONG = new ArrayList<>();
    private static int looked = 0;

    public static void main(String[] args) throws IOException, InterruptedException {
        List<String> lines = Files.readAllLines(README);
        Path out = Files.createTempDirectory("readme");
        try {
            Files.write(out.resolve("Yours.java"), programOf(linesIn("java", lines)));
            for (String command : linesIn("sh", lines)) {
                run(command, out);
            }
        } finally {
            remove(out);
        }
        checkTable(lines, "### All calls", 2, publicMethods());
        checkTable(lines, "| test |", 1, ownTests());
        for (String wrong : WRONG) {
            System.out.println(wrong);
        }
        System.out.println("the README looked at, " + looked + " answers and commands, " + WRONG.size() + " wrong");
        if (!WRONG.isEmpty() || looked == 0) {
            System.exit(1);
        }
    }

    private static List<String> linesIn(String language, List<String> lines) {
        List<String> found = new ArrayList<>();
        boolean inside = false;
        for (String line : lines) {
            if (line.startsWith("```")) {
                inside = line.equals("```" + language);
            } else if (inside) {
                found.add(line);
            }
        }
        return found;
    }

    /** The examples as one program that exits with 1 if an answer is not the one that is shown. */
    private static List<String> programOf(List<String> shown) {
        List<String> program = new ArrayList<>(List.of("public final class Yours {",
                "interface Call { Object answer(); }",
                "static int wrong = 0;",
                "static void due(String call, String want, Call told) {",
                "String got;",
                "try { got = String.valueOf(told.answer()); }",
                "catch (RuntimeException e) { got = e.getClass().getSimpleName(); }",
                "if (!got.equals(want)) { wrong++; System.out.println(call + \" answered \" + got); }",
                "}",
                "public static void main(String[] args) {"));
        for (String line : shown) {
            Matcher matcher = SHOWN.matcher(line);
            if (!matcher.matches()) {
                program.add(line);
                continue;
            }
            looked++;
            String told = matcher.group(2);
            if (matcher.group(1) != null) {
                program.add(line);
                told = matcher.group(1);
            }
            program.add("due(\"" + matcher.group(2) + "\", \"" + matcher.group(3) + "\", () -> " + told + ");");
        }
        program.addAll(List.of("System.exit(wrong == 0 ? 0 : 1);", "}", "}"));
        return program;
    }

    /** Runs a command, its classes and the program in a folder of their own. */
    private static void run(String command, Path out) throws IOException, InterruptedException {
        if (command.equals(".ci/run")) {
            // It runs this test.
            return;
        }
        List<String> words = new ArrayList<>(List.of(command.split(" ")));
        words.replaceAll(word -> word.equals("out") ? out.toString() : word);
        words.replaceAll(word -> word.equals("Yours.java") ? out.resolve(word).toString() : word);
        looked++;
        Process process = new ProcessBuilder(words).inheritIO().start();
        if (process.waitFor() != 0) {
            WRONG.add("failed: " + command);
        }
    }

    private static void remove(Path folder) throws IOException {
        try (DirectoryStream<Path> files = Files.newDirectoryStream(folder)) {
            for (Path file : files) {
                Files.delete(file);
            }
        }
        Files.delete(folder);
    }

    /** Whether the names in a column of the table that begins at a line, or behind it, are those that are due. */
    private static void checkTable(List<String> lines, String begin, int column, Set<String> due) {
        Set<String> found = new TreeSet<>();
        boolean begun = false;
        boolean inside = false;
        for (String line : lines) {
            begun |= line.startsWith(begin);
            Matcher row = ROW.matcher(line);
            if (begun && row.matches()) {
                inside = true;
                Matcher name = QUOTED.matcher(row.group(column));
                while (name.find()) {
                    found.add(name.group(1));
                }
            } else if (inside && !line.startsWith("|")) {
                break;
            }
        }
        if (!found.equals(due)) {
            WRONG.add("the table at " + begin + " names " + found + ", due is " + due);
        }
    }

    private static Set<String> publicMethods() {
        Set<String> names = new TreeSet<>();
        for (Method method : Traversehall.class.getDeclaredMethods()) {
            if (Modifier.isPublic(method.getModifiers())) {
                names.add(method.getName());
            }
        }
        return names;
    }

    private static Set<String> ownTests() throws IOException {
        Set<String> names = new TreeSet<>();
        try (DirectoryStream<Path> files = Files.newDirectoryStream(TESTS, "*Test.java")) {
            for (Path file : files) {
                names.add(file.getFileName().toString().replace(".java", ""));
            }
        }
        return names;
    }
}
