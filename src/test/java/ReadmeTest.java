import java.io.IOException;
import java.lang.reflect.Method;
import java.lang.reflect.Modifier;
import java.nio.file.Files;
import java.nio.file.Path;
import java.util.ArrayList;
import java.util.List;
import java.util.Set;
import java.util.TreeSet;
import java.util.regex.Matcher;
import java.util.regex.Pattern;
import java.util.stream.Stream;

/** README.md: its example, compiled and run by the commands that stand there; no call and no test is left out. */
public final class ReadmeTest {
    private static final Path README = Path.of("README.md");
    private static final Path PROGRAM = Path.of("src", "main", "java", "Blockfabric.java");
    private static final Path TESTS = Path.of("src", "test", "java");

    private final List<String> lines;
    private int wrong;

    private ReadmeTest(List<String> lines) {
        this.lines = lines;
    }

    public static void main(String[] args) throws IOException, InterruptedException {
        ReadmeTest test = new ReadmeTest(Files.readAllLines(README));
        test.example();
        test.calls();
        test.tests();
        if (test.wrong != 0) {
            System.exit(1);
        }
    }

    /** In a directory of its own, with the program at the same place as here. */
    private void example() throws IOException, InterruptedException {
        int code = lines.indexOf("```java");
        int commands = lineWith("^Behind `(javac [^`]*)`, `(java [^`]*)` tells:$");
        if (code < 0 || commands < code) {
            wrong("the example, or how it is run, is not there");
            return;
        }
        Path place = Files.createTempDirectory("readme");
        try {
            Files.createDirectories(place.resolve(PROGRAM).getParent());
            Files.copy(PROGRAM, place.resolve(PROGRAM));
            Files.write(place.resolve("Example.java"), block(code));
            String[] parts = lines.get(commands).split("`");
            compare("javac", output(place, parts[1]), List.of());
            compare("the example", output(place, parts[3]), block(lines.subList(commands, lines.size()).indexOf("```")
                + commands));
        } finally {
            remove(place);
        }
    }

    private int lineWith(String form) {
        for (int i = 0; i < lines.size(); i++) {
            if (lines.get(i).matches(form)) {
                return i;
            }
        }
        return -1;
    }

    private List<String> block(int start) {
        List<String> rest = lines.subList(start + 1, lines.size());
        return rest.subList(0, rest.indexOf("```"));
    }

    private static List<String> output(Path place, String command) throws IOException, InterruptedException {
        ProcessBuilder builder = new ProcessBuilder(command.split(" ")).directory(place.toFile());
        // What java itself tells of its options must not count as an answer.
        Process process = builder.redirectError(ProcessBuilder.Redirect.INHERIT).start();
        List<String> told = new String(process.getInputStream().readAllBytes()).lines().toList();
        int code = process.waitFor();
        if (code == 0) {
            return told;
        }
        List<String> failed = new ArrayList<>(told);
        failed.add("ended with " + code);
        return failed;
    }

    private static void remove(Path place) throws IOException {
        try (Stream<Path> all = Files.walk(place)) {
            for (Path path : all.sorted((one, other) -> other.compareTo(one)).toList()) {
                Files.delete(path);
            }
        }
    }

    /** Each call stands in the table, and nothing else does. */
    private void calls() {
        Set<String> told = new TreeSet<>();
        Matcher names = Pattern.compile("`(\\w+)`").matcher(String.join("\n", linesOf("| ")));
        while (names.find()) {
            told.add(names.group(1));
        }
        Set<String> due = new TreeSet<>();
        for (Method method : Blockfabric.class.getDeclaredMethods()) {
            if (Modifier.isPublic(method.getModifiers())) {
                due.add(method.getName());
            }
        }
        compare("the calls", List.copyOf(told), List.copyOf(due));
    }

    /** Each test is told, and each that is told is there. */
    private void tests() throws IOException {
        Set<String> told = new TreeSet<>();
        Matcher names = Pattern.compile("`(\\w+Test)`").matcher(String.join("\n", lines));
        while (names.find()) {
            told.add(names.group(1) + ".java");
        }
        try (Stream<Path> files = Files.list(TESTS)) {
            List<String> due = files.map(file -> file.getFileName().toString())
                .filter(name -> name.endsWith("Test.java")).sorted().toList();
            compare("the tests", told.stream().sorted().toList(), due);
        }
    }

    private List<String> linesOf(String beginning) {
        return lines.stream().filter(line -> line.startsWith(beginning)).toList();
    }

    private void compare(String what, List<String> got, List<String> due) {
        if (!got.equals(due)) {
            wrong(what + ": told is " + got + ", due is " + due);
        }
    }

    private void wrong(String text) {
        wrong++;
        System.out.println("README.md: " + text);
    }
}
