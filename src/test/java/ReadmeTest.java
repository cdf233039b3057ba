import java.io.File;
import java.io.IOException;
import java.nio.charset.StandardCharsets;
import java.nio.file.Files;
import java.nio.file.Path;
import java.util.List;
import java.util.regex.Matcher;
import java.util.regex.Pattern;

/**
 * What README.md shows of calls and answers holds when it is run: a program is made of its examples and of its table of
 * commands, then compiled and run.
 */
public final class ReadmeTest {
    private static final Path README = Path.of("README.md");
    private static final Path PLACE = Path.of("build/readme");
    private static final String MAKING = "ChairMigration garden = new ChairMigration();";
    /** A call with its answer, or with what it throws, and perhaps with a remark; the answer may be kept. */
    private static final Pattern SHOWN
        = Pattern.compile("(int \\w+ = )?(.+);\\s+// (?:-> (\"[^\"]*\"|[^,]+)|throws (\\w+))(?:, .*)?");
    private static final Pattern COMMAND = Pattern.compile("\\| `([^`]+)` \\| `([^`]+)` \\|");
    private static final int FEWEST_CALLS = 50;
    private static final int KINDS_OF_COMMAND = 12;

    private final StringBuilder methods = new StringBuilder();
    private final StringBuilder examples = new StringBuilder();
    private final StringBuilder commands = new StringBuilder();
    private int calls = 0;
    private int kinds = 0;
    private int wrong = 0;

    private void fault(int number, String text) {
        wrong++;
        System.out.println("README.md line " + number + ": " + text);
    }

    private void read(List<String> lines) {
        boolean inJava = false;
        boolean inMethod = false;
        for (int index = 0; index < lines.size(); index++) {
            String line = lines.get(index);
            if (line.startsWith("```")) {
                inJava = line.equals("```java");
                inMethod = false;
            } else if (inJava) {
                inMethod |= line.startsWith("static ");
                if (inMethod) {
                    methods.append(line).append('\n');
                } else {
                    readExample(index + 1, line);
                }
            } else {
                readCommand(index + 1, line);
            }
        }
    }

    private void readExample(int number, String line) {
        Matcher shown = SHOWN.matcher(line);
        if (line.equals(MAKING)) {
            examples.append("} {\n").append(line).append('\n');
        } else if (!shown.matches()) {
            fault(number, "neither makes an object nor shows what a call answers or throws: " + line);
        } else {
            calls++;
            examples.append("line = ").append(number).append(";\n");
            examples.append(shown.group(1) == null ? "" : shown.group(1));
            examples.append(shown.group(4) == null ? "answers(" + shown.group(3) : "throwing(" + shown.group(4) + ".class");
            examples.append(", () -> ").append(shown.group(2)).append(");\n");
        }
    }

    private void readCommand(int number, String line) {
        Matcher command = COMMAND.matcher(line);
        if (command.matches()) {
            kinds++;
            commands.append("line = ").append(number).append(";\nsame(\"").append(command.group(1)).append("\", garden -> garden.")
                .append(command.group(2)).append(");\n");
        }
    }

    private String program() {
        return "import java.util.NoSuchElementException;\n"
            + "public final class ReadmeExamples extends ReadmeCalls {\n"
            + methods
            + "public static void main(String[] args) {\nChecks.limitTime();\n{\n" + examples + "}\n" + commands
            + "Checks.report();\n}\n}\n";
    }

    private boolean succeeds(String... command) throws IOException, InterruptedException {
        return new ProcessBuilder(command).inheritIO().start().waitFor() == 0;
    }

    private void runProgram() throws IOException, InterruptedException {
        String classPath = PLACE + File.pathSeparator + System.getProperty("java.class.path");
        Path source = PLACE.resolve("ReadmeExamples.java");
        Files.createDirectories(PLACE);
        Files.writeString(source, program(), StandardCharsets.UTF_8);
        if (!succeeds("javac", "-encoding", "UTF-8", "-cp", classPath, "-d", PLACE.toString(), source.toString())) {
            wrong++;
            System.out.println("the examples of README.md do not compile: " + source);
        } else if (!succeeds("java", "-cp", classPath, "ReadmeExamples")) {
            wrong++;
        }
    }

    public static void main(String[] args) throws IOException, InterruptedException {
        Checks.limitTime();
        // Named here, so that it is compiled along: the program that is made stands on it.
        ReadmeCalls.line = 0;
        ReadmeTest test = new ReadmeTest();
        test.read(Files.readAllLines(README, StandardCharsets.UTF_8));
        if (test.calls < FEWEST_CALLS || test.kinds != KINDS_OF_COMMAND) {
            test.fault(0, "shows " + test.calls + " calls and " + test.kinds + " kinds of command");
        }
        test.runProgram();
        if (test.wrong != 0) {
            System.exit(1);
        }
    }
}
