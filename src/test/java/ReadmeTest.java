import java.io.File;
import java.io.IOException;
import java.lang.reflect.Method;
import java.lang.reflect.Modifier;
import java.nio.file.Files;
import java.nio.file.Path;
import java.util.ArrayList;
import java.util.Comparator;
import java.util.List;
import java.util.regex.Matcher;
import java.util.regex.Pattern;
import java.util.stream.Collectors;
import java.util.stream.Stream;

/** README.md does what it says: its commands run, its example prints what it tells, each call and each test is named. */
public final class ReadmeTest {
    private static final Path ROOT = Path.of(System.getProperty("project.root", "."));
    private static int wrong;

    private static void hold(boolean isSo, String what) {
        if (isSo) return;
        wrong++;
        System.out.println(what);
    }

    /** The blocks of a kind, in their sequence, each with its line ends. */
    private static List<String> blocks(String readme, String kind) {
        List<String> found = new ArrayList<>();
        Matcher block = Pattern.compile("(?ms)^```" + kind + "\\n(.*?)^```$").matcher(readme);
        while (block.find()) found.add(block.group(1));
        return found;
    }

    private static List<Path> below(Path top) throws IOException {
        try (Stream<Path> all = Files.walk(top)) {
            return all.sorted(Comparator.reverseOrder()).collect(Collectors.toList());
        }
    }

    private static void copySources(Path to) throws IOException {
        for (Path file : below(ROOT.resolve("src"))) {
            if (!Files.isRegularFile(file)) continue;
            Path copy = to.resolve(ROOT.relativize(file).toString());
            Files.createDirectories(copy.getParent());
            Files.copy(file, copy);
        }
    }

    /** What a command prints in a folder; a command that fails is told. */
    private static String run(String command, Path folder) throws IOException, InterruptedException {
        Process process = new ProcessBuilder(command.split(" ")).directory(folder.toFile()).redirectErrorStream(true)
            .redirectInput(new File("/dev/null")).start();
        String printed = new String(process.getInputStream().readAllBytes());
        hold(process.waitFor() == 0, "fails: " + command + "\n" + printed);
        return printed;
    }

    private static void checkCommands(String readme, Path folder) throws IOException, InterruptedException {
        List<String> programs = blocks(readme, "java"), outputs = blocks(readme, "text");
        hold(programs.size() == 1 && outputs.size() == 1, "one example and what it prints");
        if (programs.size() != 1 || outputs.size() != 1) return;
        String signs = Trial.SIGNS.replace("\\", "\\\\").replace("\"", "\\\"").replace("\n", "\\n");
        hold(programs.get(0).contains("SIGNS = \"" + signs + "\";"), "the example's signs are not the document's");
        copySources(folder);
        Files.writeString(folder.resolve("Example.java"), programs.get(0));
        boolean isShown = false, isWhole = false;
        for (String command : String.join("", blocks(readme, "sh")).split("\n")) {
            if (command.equals(".ci/run")) {
                isWhole = Files.isExecutable(ROOT.resolve(command));
                continue;
            }
            String printed = run(command, folder);
            if (!command.endsWith(" Example")) continue;
            isShown = true;
            hold(printed.equals(outputs.get(0)), "the example prints\n" + printed + "and not\n" + outputs.get(0));
        }
        hold(isShown, "no command runs the example");
        hold(isWhole, "no command runs all tests");
    }

    private static void checkNames(String readme) throws IOException {
        for (Method call : Commadesk.class.getDeclaredMethods()) {
            if (!Modifier.isPublic(call.getModifiers())) continue;
            hold(readme.contains("`" + call.getName() + "`"), "not named: the call " + call.getName());
        }
        for (Path file : below(ROOT.resolve("src/test/java"))) {
            String name = file.getFileName().toString().replace(".java", "");
            hold(Files.isDirectory(file) || readme.contains("`" + name + "`"), "not named: the test " + name);
        }
        Matcher named = Pattern.compile("`(\\w+Test)`").matcher(readme);
        while (named.find()) hold(Files.exists(ROOT.resolve("src/test/java/" + named.group(1) + ".java")), "there is no " + named.group(1));
    }

    public static void main(String[] args) throws Exception {
        String readme = Files.readString(ROOT.resolve("README.md"));
        Path folder = Files.createTempDirectory("readme");
        try {
            checkCommands(readme, folder);
        } finally {
            for (Path file : below(folder)) Files.delete(file);
        }
        checkNames(readme);
        if (wrong != 0) System.exit(1);
        System.out.println("README.md does what it says");
    }
}
