import java.io.IOException;
import java.lang.reflect.Method;
import java.lang.reflect.Modifier;
import java.nio.file.Files;
import java.nio.file.Path;
import java.util.ArrayList;
import java.util.Comparator;
import java.util.List;
import java.util.regex.Matcher;
import java.util.regex.Pattern;
import java.util.stream.Stream;

/** What README.md says can be done as it stands there. It is run in the folder of README.md. */
public final class ReadmeTest {
    private static final Path ROOT = Path.of("").toAbsolutePath();
    private static final String CI = ".ci/run";
    private static final Pattern BLOCK = Pattern.compile("```(\\w+)\n(.*?)```", Pattern.DOTALL);
    private static final Pattern CLASS_NAME = Pattern.compile("public final class (\\w+)");

    /** A fenced block of README.md: its language and its lines. */
    private record Block(String language, String text) {
    }

    private final Checks checks = new Checks("ReadmeTest");
    private final String readme;
    private final List<Block> blocks = new ArrayList<>();

    private ReadmeTest() throws IOException {
        readme = Files.readString(ROOT.resolve("README.md"));
        Matcher found = BLOCK.matcher(readme);
        while (found.find()) {
            blocks.add(new Block(found.group(1), found.group(2)));
        }
    }

    public static void main(String[] args) throws IOException {
        ReadmeTest test = new ReadmeTest();
        test.namesEveryCall();
        test.namesEveryTest();
        test.hasEachKindOfBlock();
        Path room = Files.createTempDirectory("readme");
        try {
            test.commandsDoWhatIsSaid(copyOfProject(room));
        } finally {
            deleteAll(room);
        }
        test.checks.end();
    }

    private void namesEveryCall() {
        for (Method method : DeviceTrials.class.getDeclaredMethods()) {
            if (Modifier.isPublic(method.getModifiers())) {
                String call = "`" + method.getName() + "(";
                checks.due("README.md names " + method.getName(), true, () -> readme.contains(call));
            }
        }
        checks.due("README.md names NONE", true, () -> readme.contains("`DeviceTrials.NONE` is " + DeviceTrials.NONE));
    }

    private void namesEveryTest() throws IOException {
        try (Stream<Path> files = Files.list(ROOT.resolve("src/test/java"))) {
            for (Path file : files.toList()) {
                String name = file.getFileName().toString().replace(".java", "");
                checks.due("README.md names " + name, true, () -> readme.contains("`" + name + "`"));
            }
        }
    }

    /** Without blocks nothing would be looked at, and the test would pass for nothing. */
    private void hasEachKindOfBlock() {
        checks.due("an example", 1L, () -> count("java"));
        checks.due("what it prints", 1L, () -> count("text"));
        checks.due("commands", true, () -> count("sh") > 1);
        checks.due("the command that runs all tests", true, () -> blocks.contains(new Block("sh", CI + "\n")));
        checks.due(CI + " can be run", true, () -> Files.isExecutable(ROOT.resolve(CI)));
    }

    private long count(String language) {
        return blocks.stream().filter(block -> block.language.equals(language)).count();
    }

    private void commandsDoWhatIsSaid(Path project) throws IOException {
        String printed = "";
        for (Block block : blocks) {
            if (block.language.equals("java")) {
                save(project, block.text);
            } else if (block.language.equals("text")) {
                String said = printed;
                checks.due("the commands before it print", block.text, () -> said);
            } else if (!block.text.contains(CI)) {
                // The script that runs this test would run it again without an end.
                printed = run(project, block.text);
            }
        }
    }

    private void save(Path project, String source) throws IOException {
        Matcher found = CLASS_NAME.matcher(source);
        boolean isNamed = found.find();
        checks.due("the example has a name", true, () -> isNamed);
        if (isNamed) {
            Files.writeString(project.resolve(found.group(1) + ".java"), source);
        }
    }

    private String run(Path project, String commands) throws IOException {
        Path output = project.resolve("printed");
        Process process = new ProcessBuilder("sh", "-e", "-c", commands).directory(project.toFile())
                .redirectErrorStream(true).redirectOutput(output.toFile()).start();
        int code = waitFor(process);
        String printed = Files.readString(output);
        checks.due("exit code of\n" + commands + "which printed\n" + printed, 0, () -> code);
        return printed;
    }

    private static int waitFor(Process process) {
        try {
            return process.waitFor();
        } catch (InterruptedException e) {
            return -1;
        }
    }

    /** The commands leave files behind, so they run in a copy that finds ../shared as the project does. */
    private static Path copyOfProject(Path room) throws IOException {
        Files.createSymbolicLink(room.resolve("shared"), ROOT.resolveSibling("shared"));
        Path project = Files.createDirectory(room.resolve("project"));
        try (Stream<Path> paths = Files.walk(ROOT.resolve("src"))) {
            for (Path path : paths.toList()) {
                Files.copy(path, project.resolve(ROOT.relativize(path)));
            }
        }
        return project;
    }

    private static void deleteAll(Path room) throws IOException {
        try (Stream<Path> paths = Files.walk(room)) {
            for (Path path : paths.sorted(Comparator.reverseOrder()).toList()) {
                Files.delete(path);
            }
        }
    }
}
