import java.io.IOException;
import java.lang.reflect.Method;
import java.lang.reflect.Modifier;
import java.nio.file.Files;
import java.nio.file.Path;
import java.util.ArrayList;
import java.util.List;
import java.util.Set;
import java.util.TreeSet;
import java.util.regex.Matcher;
import java.util.regex.Pattern;
import java.util.stream.Stream;

/** README.md: its program compiles and prints what it says, and it names every call and test. */
public final class ReadmeTest {
    private static final Check CHECK = new Check("ReadmeTest");
    private static final Path PROGRAM = Path.of("src", "main", "java", "RiverNames.java");
    private static final Path TESTS = Path.of("src", "test", "java");
    private static final Path ROOM = Path.of("build", "ci", "readme");

    private ReadmeTest() {
    }

    public static void main(String[] args) throws IOException, InterruptedException {
        String page = Files.readString(Path.of("README.md"));
        showsAProgramThatAnswersSo(section(page, "How to use it"));
        hasEveryCall(section(page, "Its calls"));
        saysHowTheTestsAreRun(section(page, "How to run its tests"));
        CHECK.end();
    }

    /** Does what the page tells its reader to do, in a directory that has nothing else. */
    private static void showsAProgramThatAnswersSo(String section)
            throws IOException, InterruptedException {
        Path copy = ROOM.resolve(PROGRAM);
        Files.createDirectories(copy.getParent());
        Files.write(copy, Files.readAllBytes(PROGRAM));
        CHECK.due("the page says how its program is named",
                section.contains("saved as `Council.java`"), true);
        Files.writeString(ROOM.resolve("Council.java"), block(section, "java"));
        String printed = "";
        for (String command : block(section, "sh").split("\n")) {
            printed += outputOf(command);
        }
        same("what the page's program prints", printed, block(section, "text"));
    }

    private static String outputOf(String command) throws IOException, InterruptedException {
        Process process = new ProcessBuilder(command.split(" "))
                .directory(ROOM.toFile())
                .redirectError(ProcessBuilder.Redirect.INHERIT)
                .start();
        String printed = new String(process.getInputStream().readAllBytes());
        CHECK.due(command + ": exit code", process.waitFor(), 0);
        return printed.replace("\r\n", "\n");
    }

    private static void hasEveryCall(String section) {
        List<String> due = new ArrayList<>();
        for (Method method : RiverNames.class.getDeclaredMethods()) {
            if (Modifier.isPublic(method.getModifiers())) {
                due.add(method.getName() + "/" + method.getParameterCount());
            }
        }
        List<String> told = new ArrayList<>();
        Matcher row = Pattern.compile("(?m)^\\| `(\\w+)\\(([^)]*)\\)` \\|").matcher(section);
        while (row.find()) {
            int given = row.group(2).isEmpty() ? 0 : row.group(2).split(", ").length;
            told.add(row.group(1) + "/" + given);
        }
        due.sort(null);
        told.sort(null);
        same("the calls of the page", told.toString(), due.toString());
    }

    private static void saysHowTheTestsAreRun(String section) throws IOException {
        same("the command for the tests", block(section, "sh"), ".ci/run\n");
        CHECK.due("it can be run", Files.isExecutable(Path.of(".ci", "run")), true);
        Set<String> due = new TreeSet<>();
        try (Stream<Path> files = Files.list(TESTS)) {
            files.map(file -> file.getFileName().toString())
                    .filter(name -> name.endsWith("Test.java"))
                    .forEach(name -> due.add(name.substring(0, name.length() - 5)));
        }
        Set<String> told = new TreeSet<>();
        Matcher name = Pattern.compile("`(\\w+Test)`").matcher(section);
        while (name.find()) {
            told.add(name.group(1));
        }
        same("the tests of the page", told.toString(), due.toString());
    }

    private static String section(String page, String title) {
        return between(page + "\n## ", "\n## " + title + "\n", "\n## ");
    }

    private static String block(String section, String kind) {
        return between(section, "\n```" + kind + "\n", "```\n");
    }

    private static String between(String text, String from, String to) {
        int start = text.indexOf(from);
        int end = start < 0 ? -1 : text.indexOf(to, start + from.length());
        if (end < 0) {
            CHECK.report("README.md has no" + from);
            return "";
        }
        return text.substring(start + from.length(), end);
    }

    private static void same(String what, String got, String want) {
        CHECK.due(what + " is as due", got.equals(want), true);
        if (!got.equals(want)) {
            System.out.println("-- got\n" + got + "\n-- due\n" + want);
        }
    }
}
