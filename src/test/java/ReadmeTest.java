import java.io.IOException;
import java.lang.reflect.Method;
import java.lang.reflect.Modifier;
import java.net.URL;
import java.net.URLClassLoader;
import java.nio.charset.StandardCharsets;
import java.nio.file.Files;
import java.nio.file.Path;
import java.util.ArrayList;
import java.util.Comparator;
import java.util.List;
import java.util.Set;
import java.util.TreeSet;
import java.util.regex.Matcher;
import java.util.regex.Pattern;
import java.util.stream.Stream;

/** What README.md shows is true: its code compiles, and each call in it answers what stands behind it. */
public final class ReadmeTest {
    private static final Pattern BLOCK = Pattern.compile("```java\n(.*?)```", Pattern.DOTALL);
    private static final Pattern SHOWN = Pattern.compile(
        "((?:\\w+|new UpDrain\\(\\))\\.(\\w+)\\(.*\\)); +// (?:(-?\\d+)|(NONE|UNKNOWN|OUTSIDE|NOT|FULL))(?:: .*)?");
    private static final Check check = new Check();

    private final List<String> calls = new ArrayList<>();
    private final List<Long> dues = new ArrayList<>();
    private final Set<String> names = new TreeSet<>();
    private final StringBuilder members = new StringBuilder();
    private final StringBuilder steps = new StringBuilder();

    public static void main(String[] args) throws Exception {
        String page = Files.readString(Path.of("README.md"), StandardCharsets.UTF_8);
        ReadmeTest test = new ReadmeTest();
        test.read(page);
        test.everyAnswerIsTrue();
        test.everyCallIsShown();
        everyTestIsNamed(page);
        theRefusalsAreAsTold(page);
        check.end("ReadmeTest");
    }

    /** A block that begins with a method is one for the others to use; all others are steps, one behind the other. */
    private void read(String page) {
        Matcher block = BLOCK.matcher(page);
        while (block.find()) {
            if (block.group(1).startsWith("static ")) {
                members.append(block.group(1));
            } else {
                for (String line : block.group(1).split("\n")) {
                    steps.append(stepOf(line)).append('\n');
                }
            }
        }
    }

    private String stepOf(String line) {
        Matcher shown = SHOWN.matcher(line);
        if (!shown.matches()) {
            boolean silent = line.matches("(x|new UpDrain\\(\\))\\..*");
            check.due("an answer stands behind: " + line, silent ? 0 : 1, 1);
            return line;
        }
        calls.add(shown.group(1));
        names.add(shown.group(2));
        dues.add(shown.group(3) != null ? Long.parseLong(shown.group(3)) : refusalOf(shown.group(4)));
        return "answers.add((long) " + shown.group(1) + ");";
    }

    private static long refusalOf(String name) {
        switch (name) {
            case "NONE": return UpDrain.NONE;
            case "UNKNOWN": return UpDrain.UNKNOWN;
            case "OUTSIDE": return UpDrain.OUTSIDE;
            case "NOT": return UpDrain.NOT;
            default: return UpDrain.FULL;
        }
    }

    private void everyAnswerIsTrue() throws Exception {
        List<?> answers = run("public final class Shown {\n" + members
            + "public static java.util.List<Long> answers() {\njava.util.List<Long> answers = new java.util.ArrayList<>();\n"
            + steps + "return answers;\n}\n}\n");
        check.due("answers that were run", answers.size(), dues.size());
        for (int i = 0; i < answers.size() && i < dues.size(); i++) {
            check.due("README.md: " + calls.get(i), (Long) answers.get(i), dues.get(i));
        }
    }

    private static List<?> run(String code) throws Exception {
        Path dir = Files.createTempDirectory("readme");
        try {
            Path file = Files.writeString(dir.resolve("Shown.java"), code);
            String with = System.getProperty("java.class.path");
            int status = new ProcessBuilder("javac", "-cp", with, "-d", dir.toString(), file.toString())
                .inheritIO().start().waitFor();
            check.due("what README.md shows compiles: exit code", status, 0);
            if (status != 0) {
                return List.of();
            }
            try (URLClassLoader loader = new URLClassLoader(new URL[] {dir.toUri().toURL()})) {
                return (List<?>) loader.loadClass("Shown").getMethod("answers").invoke(null);
            }
        } finally {
            remove(dir);
        }
    }

    private static void remove(Path dir) throws IOException {
        try (Stream<Path> all = Files.walk(dir)) {
            for (Path path : (Iterable<Path>) all.sorted(Comparator.reverseOrder())::iterator) {
                Files.delete(path);
            }
        }
    }

    private void everyCallIsShown() {
        for (Method method : UpDrain.class.getDeclaredMethods()) {
            if (Modifier.isPublic(method.getModifiers())) {
                check.due("README.md shows " + method.getName(), names.contains(method.getName()) ? 1 : 0, 1);
            }
        }
    }

    private static void everyTestIsNamed(String page) throws IOException {
        Set<String> tests = new TreeSet<>();
        try (Stream<Path> files = Files.list(Path.of("src/test/java"))) {
            for (Path file : (Iterable<Path>) files.sorted()::iterator) {
                tests.add(file.getFileName().toString().replace(".java", ""));
            }
        }
        for (String test : tests) {
            check.due("README.md names " + test, page.contains("`" + test + "`") ? 1 : 0, 1);
        }
        Matcher named = Pattern.compile("`(\\w+Test)`").matcher(page);
        while (named.find()) {
            check.due("there is a " + named.group(1), tests.contains(named.group(1)) ? 1 : 0, 1);
        }
    }

    private static void theRefusalsAreAsTold(String page) {
        Matcher told = Pattern.compile("`([A-Z]+)` \\((-\\d)\\)").matcher(page);
        int many = 0;
        while (told.find()) {
            many++;
            check.due("README.md: " + told.group(1), Long.parseLong(told.group(2)), refusalOf(told.group(1)));
        }
        check.due("refusals that are told, and NONE", many, 5);
    }
}
