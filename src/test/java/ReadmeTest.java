import java.io.IOException;
import java.io.InputStream;
import java.nio.charset.StandardCharsets;
import java.nio.file.Files;
import java.nio.file.Path;
import java.util.ArrayList;
import java.util.Comparator;
import java.util.List;
import java.util.Set;
import java.util.TreeSet;
import java.util.regex.Matcher;
import java.util.regex.Pattern;
import java.util.stream.Stream;

/** What README.md shows of the class compiles and runs as it stands there, and the commands it names work. */
public final class ReadmeTest {
    private static final Checks CHECKS = new Checks();
    private static final Path CI = Path.of(".ci/run");

    public static void main(String[] args) throws IOException, InterruptedException {
        String readme = Files.readString(Path.of("README.md"));
        Path copy = Files.createTempDirectory("readme");
        try {
            copyTree(Path.of("src"), copy.resolve("src"));
            example(readme);
            commands(readme, copy);
        } finally {
            removeTree(copy);
        }
        namesEachCall(readme);
        namesEachConstant(readme);
        namesEachTest(readme);
        CHECKS.end("ReadmeTest");
    }

    private static List<String> blocks(String readme, String language) {
        List<String> found = new ArrayList<>();
        Matcher block = Pattern.compile("(?s)```" + language + "\n(.*?)```").matcher(readme);
        while (block.find()) {
            found.add(block.group(1));
        }
        return found;
    }

    private static void example(String readme) throws IOException {
        List<String> shown = blocks(readme, "java");
        CHECKS.due("examples in README.md", shown.size(), 1);
        String file = Files.readString(Path.of("src/example/java/Example.java"));
        CHECKS.holds("README.md shows Example.java as it is", shown.contains(file));
    }

    /** Each block of commands is run in a copy, so that a checkout stays clean. */
    private static void commands(String readme, Path copy) throws IOException, InterruptedException {
        List<String> all = blocks(readme, "sh");
        List<String> printed = blocks(readme, "text");
        CHECKS.due("blocks of commands in README.md", all.size(), 3);
        CHECKS.due("blocks of what is printed in README.md", printed.size(), 1);
        for (String block : all) {
            if (block.trim().equals(CI.toString())) {
                // This test is one of those that it runs.
                CHECKS.holds(CI + " can be run", Files.isExecutable(CI));
            } else {
                String out = run(block, copy);
                boolean isShown = block.contains("Example");
                CHECKS.holds("prints as README.md shows:\n" + out, !isShown || printed.contains(out));
            }
        }
    }

    private static String run(String commands, Path directory) throws IOException, InterruptedException {
        Process process = new ProcessBuilder("sh", "-e", "-c", commands).directory(directory.toFile())
                .redirectError(ProcessBuilder.Redirect.INHERIT).start();
        process.getOutputStream().close();
        String out;
        try (InputStream in = process.getInputStream()) {
            out = new String(in.readAllBytes(), StandardCharsets.UTF_8);
        }
        CHECKS.due("exit code of\n" + commands + out, process.waitFor(), 0);
        return out;
    }

    private static void namesEachCall(String readme) {
        Set<String> named = new TreeSet<>();
        Matcher row = Pattern.compile("(?m)^\\| `(\\w+)\\(").matcher(readme);
        while (row.find()) {
            CHECKS.holds("once in README.md: " + row.group(1), named.add(row.group(1)));
        }
        CHECKS.holds("README.md names each call, not " + named, named.equals(new TreeSet<>(List.of(Calls.NAMES))));
    }

    private static void namesEachConstant(String readme) {
        String[] names = {"NONE", "BAD", "STATE", "FULL"};
        int[] values = {TrimSheet.NONE, TrimSheet.BAD, TrimSheet.STATE, TrimSheet.FULL};
        for (int n = 0; n < names.length; n++) {
            String row = "| `" + names[n] + "` | " + values[n] + " |";
            CHECKS.holds("README.md has " + row, readme.contains(row));
        }
        CHECKS.holds("README.md has NO", readme.contains("| `NO` | `Long.MIN_VALUE` |"));
    }

    private static void namesEachTest(String readme) throws IOException {
        Set<String> named = new TreeSet<>();
        Matcher name = Pattern.compile("`(\\w+Test)`").matcher(readme);
        while (name.find()) {
            named.add(name.group(1) + ".java");
        }
        Set<String> there = new TreeSet<>();
        try (Stream<Path> files = Files.list(Path.of("src/test/java"))) {
            files.map(file -> file.getFileName().toString()).filter(file -> file.endsWith("Test.java"))
                    .forEach(there::add);
        }
        CHECKS.holds("README.md names the tests " + there + ", not " + named, named.equals(there));
    }

    private static void copyTree(Path from, Path to) throws IOException {
        try (Stream<Path> files = Files.walk(from)) {
            for (Path file : files.toList()) {
                Path target = to.resolve(from.relativize(file));
                if (Files.isDirectory(file)) {
                    Files.createDirectories(target);
                } else {
                    Files.copy(file, target);
                }
            }
        }
    }

    private static void removeTree(Path top) throws IOException {
        try (Stream<Path> files = Files.walk(top)) {
            for (Path file : files.sorted(Comparator.reverseOrder()).toList()) {
                Files.delete(file);
            }
        }
    }
}
