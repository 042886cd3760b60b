import java.io.File;
import java.io.IOException;
import java.nio.charset.StandardCharsets;
import java.nio.file.Files;
import java.nio.file.Path;
import java.util.ArrayList;
import java.util.Arrays;
import java.util.List;
import java.util.Set;
import java.util.TreeSet;
import java.util.regex.Matcher;
import java.util.regex.Pattern;
import java.util.stream.Collectors;
import java.util.stream.Stream;

/** README.md holds as it is written: its calls and their answers, its program, its tables and its commands. */
public final class ReadmeTest {
    private static final Path SOURCE = Path.of("src/main/java/BellWords.java");
    private static final Path TESTS = Path.of("src/test/java");
    private static final Path SCRIPT = Path.of(".ci/run");

    private static final Pattern BLOCK = Pattern.compile("(?ms)^```(\\w+)\n(.*?)^```$");
    private static final Pattern CALL = Pattern.compile("bells\\.(\\w+)\\((.*)\\); +// (-?\\d+)(?:: (.+))?");
    private static final Pattern ERROR = Pattern.compile("([A-Z_]{2,})\\b.*");
    private static final Pattern PROGRAM = Pattern.compile("public final class (\\w+)");

    private static final Due due = new Due();

    private final String readme;
    private final List<String[]> blocks = new ArrayList<>();
    private final Set<String> called = new TreeSet<>();

    private ReadmeTest(String readme) {
        this.readme = readme;
        Matcher block = BLOCK.matcher(readme);
        while (block.find()) {
            blocks.add(new String[] {block.group(1), block.group(2)});
        }
    }

    public static void main(String[] args) throws IOException, InterruptedException {
        ReadmeTest test = new ReadmeTest(Files.readString(Path.of("README.md")));
        Path room = Files.createTempDirectory("readme");
        try {
            test.examples();
            test.tables();
            test.program(room);
            test.commandsOfTests(room);
        } finally {
            remove(room);
        }
        due.end();
    }

    private static void holds(String what, boolean is) {
        due.is(what, is ? 1 : 0, 1);
    }

    private static void same(String what, Object got, Object want) {
        holds(what + " " + got + ", due is " + want, got.equals(want));
    }

    // ---- calls and their answers

    private void examples() {
        for (String[] block : blocks) {
            if (block[0].equals("java") && !PROGRAM.matcher(block[1]).find()) {
                example(block[1]);
            }
        }
        same("calls in the examples", called, namesOf(facesOf(sourceText())));
    }

    /** Each line is the new object ahead of all, or a call with its answer: no line goes unchecked. */
    private void example(String block) {
        Calls bells = null;
        for (String line : block.split("\n")) {
            Matcher call = CALL.matcher(line);
            if (line.equals("BellWords bells = new BellWords();")) {
                bells = new Calls();
            } else if (bells != null && call.matches()) {
                called.add(call.group(1));
                int want = Integer.parseInt(call.group(3));
                due.is(line, bells.call(call.group(1), numbers(call.group(2))), want);
                errorIsNamed(line, want, call.group(4));
            } else {
                holds("is an example: " + line, false);
            }
        }
    }

    private static int[] numbers(String arguments) {
        if (arguments.isEmpty()) {
            return new int[0];
        }
        if (arguments.matches("'.'")) {
            return new int[] {arguments.charAt(1)};
        }
        return Stream.of(arguments.split(", ")).mapToInt(Integer::parseInt).toArray();
    }

    private static void errorIsNamed(String line, int answer, String words) {
        Matcher name = ERROR.matcher(words == null ? "" : words);
        boolean isError = answer < -1;
        holds("names its error: " + line, name.matches() == isError);
        if (isError && name.matches()) {
            due.is("constant of: " + line, constant(name.group(1)), answer);
        }
    }

    private static int constant(String name) {
        try {
            return BellWords.class.getField(name).getInt(null);
        } catch (ReflectiveOperationException missing) {
            holds("there is a constant " + name, false);
            return 0;
        }
    }

    // ---- tables

    private void tables() throws IOException {
        same("calls in the table", rows("(\\w+\\([\\w, ]*\\))"), facesOf(sourceText()));
        Set<String> constants = rows("([A-Z_]{2,})");
        due.is("constants in the table", constants.size(), 4);
        for (String name : constants) {
            holds("number of " + name, readme.contains("| `" + name + "` | " + constant(name) + " |"));
        }
        try (Stream<Path> files = Files.list(TESTS)) {
            Set<String> there = files.map(file -> file.getFileName().toString()).filter(name -> name.endsWith("Test.java"))
                    .map(name -> name.replace(".java", "")).collect(Collectors.toCollection(TreeSet::new));
            same("tests in the table", rows("(\\w+Test)"), there);
        }
    }

    /** What stands in the first column of the rows of which it is of this form. */
    private Set<String> rows(String form) {
        Set<String> found = new TreeSet<>();
        Matcher row = Pattern.compile("(?m)^\\| `" + form + "` \\|").matcher(readme);
        while (row.find()) {
            holds("stands in one row: " + row.group(1), found.add(row.group(1)));
        }
        return found;
    }

    private static String sourceText() {
        try {
            return Files.readString(SOURCE);
        } catch (IOException missing) {
            holds("the source can be read: " + missing, false);
            return "";
        }
    }

    private static Set<String> facesOf(String source) {
        Set<String> found = new TreeSet<>();
        Matcher method = Pattern.compile("(?m)^    public int (\\w+)\\(([^)]*)\\) \\{$").matcher(source);
        while (method.find()) {
            found.add(method.group(1) + "(" + method.group(2).replace("int ", "") + ")");
        }
        return found;
    }

    private static Set<String> namesOf(Set<String> faces) {
        return faces.stream().map(face -> face.replaceAll("\\(.*", "")).collect(Collectors.toCollection(TreeSet::new));
    }

    // ---- the program and the commands

    /** The program, the commands below it and what they print, in a place of its own: none of it stays behind. */
    private void program(Path room) throws IOException, InterruptedException {
        int at = 0;
        while (at < blocks.size() && !PROGRAM.matcher(blocks.get(at)[1]).find()) {
            at++;
        }
        if (at + 2 >= blocks.size() || !blocks.get(at + 1)[0].equals("sh") || !blocks.get(at + 2)[0].equals("text")) {
            holds("a program, its commands and what they print stand there", false);
            return;
        }
        Matcher name = PROGRAM.matcher(blocks.get(at)[1]);
        Files.writeString(room.resolve((name.find() ? name.group(1) : "") + ".java"), blocks.get(at)[1]);
        Files.createDirectories(room.resolve(SOURCE).getParent());
        Files.copy(SOURCE, room.resolve(SOURCE));
        StringBuilder printed = new StringBuilder();
        for (String command : blocks.get(at + 1)[1].split("\n")) {
            printed.append(run(room, "out", command));
        }
        same("the program prints", printed.toString(), blocks.get(at + 2)[1]);
    }

    private void commandsOfTests(Path room) throws IOException, InterruptedException {
        List<String> commands = new ArrayList<>();
        for (String[] block : blocks) {
            if (block[0].equals("sh")) {
                commands.addAll(Arrays.asList(block[1].split("\n")));
            }
        }
        holds("the script for all tests is named", commands.contains(SCRIPT.toString()));
        holds("the script can be run", Files.isExecutable(SCRIPT));
        List<String> ofOne = commands.stream().filter(line -> line.contains("Test")).collect(Collectors.toList());
        due.is("commands for one test", ofOne.size(), 2);
        String script = Files.readString(SCRIPT);
        for (String command : ofOne) {
            String options = command.replaceAll(" out .*", "");
            holds("the script goes this way: " + options, script.contains(options));
            run(Path.of("."), room.resolve("one").toString(), command);
        }
    }

    /** What a command prints if its classes lie in this place instead of in "out"; it must end well. */
    private static String run(Path place, String out, String command) throws IOException, InterruptedException {
        List<String> words = new ArrayList<>(Arrays.asList(command.split(" ")));
        words.replaceAll(word -> word.equals("out") ? out : word);
        Process process = new ProcessBuilder(words).directory(place.toFile())
                .redirectError(ProcessBuilder.Redirect.INHERIT).start();
        String printed = new String(process.getInputStream().readAllBytes(), StandardCharsets.UTF_8);
        due.is("exit code of: " + command, process.waitFor(), 0);
        return printed;
    }

    private static void remove(Path room) throws IOException {
        try (Stream<Path> files = Files.walk(room)) {
            files.sorted((one, other) -> other.compareTo(one)).map(Path::toFile).forEach(File::delete);
        }
    }
}
