import java.io.IOException;
import java.lang.reflect.Method;
import java.lang.reflect.Modifier;
import java.nio.file.Files;
import java.nio.file.Path;
import java.util.ArrayList;
import java.util.Comparator;
import java.util.List;
import java.util.regex.Matcher;
import java.util.regex.Pattern;
import java.util.stream.Stream;

/** The commands of README.md, run in a copy that nothing was built in yet. Run at the project's root. */
final class ReadmeTest {
    private static final Path COPY = Path.of("build/readme");
    private static final Pattern BLOCK = Pattern.compile("(?s)```sh\n(.*?)```(?:\n\n[^\n`]*\n\n```text\n(.*?)```)?");

    private static int checks = 0;
    private static int wrong = 0;

    public static void main(String[] args) throws Exception {
        String readme = Files.readString(Path.of("README.md"));
        copy();
        boolean runsAll = false;
        int blocks = 0;
        int printed = 0;
        Matcher m = BLOCK.matcher(readme);
        while (m.find()) {
            blocks++;
            printed += m.group(2) != null ? 1 : 0;
            if (m.group(1).equals("bash .ci/run\n")) {
                // It is what runs this test.
                runsAll = true;
            } else {
                checkCommands(m.group(1), m.group(2));
            }
        }
        check(runsAll && Files.isExecutable(Path.of(".ci/run")), "no command that runs all tests");
        check(blocks == 3 && printed == 1, blocks + " blocks of commands, " + printed + " of them with what is printed");
        checkNames(readme);
        System.out.println("ReadmeTest: " + checks + " checks, " + wrong + " not as due");
        System.exit(wrong == 0 ? 0 : 1);
    }

    private static void check(boolean holds, String told) {
        checks++;
        if (!holds) {
            wrong++;
            System.out.println("README.md: " + told);
        }
    }

    private static void checkCommands(String commands, String due) throws IOException, InterruptedException {
        ProcessBuilder builder = new ProcessBuilder("bash", "-e", "-c", commands).directory(COPY.toFile());
        Process shell = builder.redirectErrorStream(true).start();
        shell.getOutputStream().close();
        String got = new String(shell.getInputStream().readAllBytes());
        int code = shell.waitFor();
        check(code == 0, "ended with " + code + ":\n" + commands + "printed\n" + got);
        check(due == null || got.equals(due), "printed\n" + got + "due is\n" + due);
    }

    /** The page says of every test and of every call what it is for. */
    private static void checkNames(String readme) throws IOException {
        for (Method method : NextToItsDebtor.class.getDeclaredMethods()) {
            if (Modifier.isPublic(method.getModifiers())) {
                check(readme.contains("`" + method.getName() + "`"), "doesn't name the call " + method.getName());
            }
        }
        for (Path test : below(Path.of("src/test/java"))) {
            String name = test.getFileName().toString().replace(".java", "");
            check(!Files.isRegularFile(test) || readme.contains("`" + name + "`"), "doesn't name " + name);
        }
    }

    private static void copy() throws IOException {
        List<Path> old = Files.exists(COPY) ? below(COPY) : new ArrayList<>();
        old.sort(Comparator.reverseOrder());
        for (Path each : old) {
            Files.delete(each);
        }
        for (Path each : below(Path.of("src"))) {
            Path to = COPY.resolve(each);
            if (Files.isDirectory(each)) {
                Files.createDirectories(to);
            } else {
                Files.copy(each, to);
            }
        }
    }

    private static List<Path> below(Path root) throws IOException {
        try (Stream<Path> all = Files.walk(root)) {
            return new ArrayList<>(all.toList());
        }
    }
}
