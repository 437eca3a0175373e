import java.io.IOException;
import java.nio.file.Files;
import java.nio.file.Path;
import java.util.ArrayList;
import java.util.List;
import java.util.regex.Matcher;
import java.util.regex.Pattern;
import java.util.stream.Stream;

/**
 * Does what README.md tells a user to do, as it stands there, in a copy of the project; it is run
 * from the project's folder.
 */
public final class ReadmeTest {
    private static final Pattern BLOCK = Pattern.compile("```(\\w+)\n(.*?)```", Pattern.DOTALL);
    private static final String ALL_TESTS = ".ci/run\n";
    private static int wrong = 0;

    public static void main(String[] args) throws IOException, InterruptedException {
        String page = Files.readString(Path.of("README.md"));
        Path copy = Files.createTempDirectory("readme");
        try {
            copyTo(copy);
            follow(page, copy);
        } finally {
            remove(copy);
        }
        tests(page);
        System.out.println(wrong == 0 ? "README.md is as it says" : wrong + " faults of README.md");
        System.exit(wrong == 0 ? 0 : 1);
    }

    private static void follow(String page, Path copy) throws IOException, InterruptedException {
        List<String> programs = blocks(page, "java");
        List<String> commands = blocks(page, "sh");
        List<String> printed = blocks(page, "text");
        equal("programs", programs.size(), 1);
        equal("outputs", printed.size(), 1);
        equal("commands", commands.size(), 3);
        if (wrong > 0) {
            return;
        }
        Files.writeString(copy.resolve("Hearing.java"), programs.get(0));
        equal("what Hearing prints", output(commands.get(0), copy), printed.get(0));
        // This very test is run by it.
        equal("the command for all tests", commands.get(1), ALL_TESTS);
        equal(".ci/run can be executed", Files.isExecutable(Path.of(".ci/run")), true);
        equal("what one test prints", output(commands.get(2), copy).contains(" 0 answers that are not due"), true);
    }

    /** The page names all tests that there are, and no others. */
    private static void tests(String page) throws IOException {
        List<String> named = new ArrayList<>();
        Matcher matcher = Pattern.compile("`(\\w+Test)`").matcher(page);
        while (matcher.find()) {
            named.add(matcher.group(1));
        }
        named.sort(null);
        List<String> there = new ArrayList<>();
        try (Stream<Path> files = Files.list(Path.of("src/test/java"))) {
            files.map(file -> file.getFileName().toString().replace(".java", ""))
                .filter(name -> name.endsWith("Test")).sorted().forEach(there::add);
        }
        equal("the tests that it names", named, there);
    }

    private static List<String> blocks(String page, String kind) {
        List<String> found = new ArrayList<>();
        Matcher matcher = BLOCK.matcher(page);
        while (matcher.find()) {
            if (matcher.group(1).equals(kind)) {
                found.add(matcher.group(2));
            }
        }
        return found;
    }

    /** What the commands print, but for errors; they stop at the first one that fails. */
    private static String output(String commands, Path folder) throws IOException, InterruptedException {
        Process process = new ProcessBuilder("sh", "-e", "-c", commands).directory(folder.toFile())
            .redirectError(ProcessBuilder.Redirect.INHERIT).start();
        String printed = new String(process.getInputStream().readAllBytes());
        equal("the exit code of " + commands, process.waitFor(), 0);
        return printed;
    }

    private static void equal(String about, Object got, Object want) {
        if (!got.equals(want)) {
            wrong++;
            System.out.println(about + ": is " + got + ", due is " + want);
        }
    }

    private static void copyTo(Path copy) throws IOException {
        try (Stream<Path> files = Files.walk(Path.of("src"))) {
            for (Path file : (Iterable<Path>) files::iterator) {
                Files.copy(file, copy.resolve(file.toString()));
            }
        }
    }

    private static void remove(Path folder) throws IOException {
        List<Path> all;
        try (Stream<Path> files = Files.walk(folder)) {
            all = new ArrayList<>(files.toList());
        }
        for (int i = all.size() - 1; i >= 0; i--) {
            Files.delete(all.get(i));
        }
    }
}
