import java.io.IOException;
import java.nio.charset.StandardCharsets;
import java.nio.file.Files;
import java.nio.file.Path;
import java.util.ArrayList;
import java.util.List;
import java.util.regex.Matcher;
import java.util.regex.Pattern;
import java.util.stream.Stream;

/**
 * Each sentence that a test says it tests stands in the document, under the promise that it names; and each place of the
 * document that names a bound or a refusal stands in a sentence of which a test says so.
 */
public final class SentencesTest {
    private static final Check check = new Check();
    private static final int PROMISES = 27;
    private static final Pattern SAYS = Pattern.compile("says\\((\\d+), (\"[^\"]*\"(?:\\s*\\+\\s*\"[^\"]*\")*)\\)");
    private static final Pattern BOUND = Pattern.compile(
        "\\d+ \\.\\. |at most|at least|at first|\\bcut\\b|within the day|beyond the day|the least|the fewest|alone|too soon"
            + "|in their order|is kept|also one twice|lowest terms|more than|as much, or more|0 for one or none|only in its"
            + "|(?<!not )\\b(?:UNKNOWN|OUTSIDE|NOT|FULL|NONE)\\b");

    public static void main(String[] args) throws IOException {
        String document = Files.readString(Path.of("../shared/DOC.md"), StandardCharsets.UTF_8).replaceAll("\\s+", " ");
        List<String> parts = partsOf(document);
        List<boolean[]> tested = new ArrayList<>();
        for (String part : parts) {
            tested.add(new boolean[part.length()]);
        }
        mark(parts, tested);
        for (int promise = 0; promise < parts.size(); promise++) {
            everyBoundIsTested(promise, parts.get(promise), tested.get(promise));
        }
        check.end("SentencesTest");
    }

    /** The terms, and then each promise. */
    private static List<String> partsOf(String document) {
        List<String> parts = new ArrayList<>();
        String object = document.replaceAll("^.*(An object is used for at most.*) ## The public face .*$", "$1");
        String terms = document.replaceAll("^.* ## Terms (.*) Ahead of the calls `write`.*$", "$1");
        parts.add(object + " " + terms);
        for (int promise = 1; promise <= PROMISES; promise++) {
            parts.add(document.replaceAll("^.* ## Promise " + promise + ": (.*?) ## .*$", "$1"));
        }
        return parts;
    }

    private static void mark(List<String> parts, List<boolean[]> tested) throws IOException {
        try (Stream<Path> files = Files.list(Path.of("src/test/java"))) {
            for (Path file : (Iterable<Path>) files.sorted()::iterator) {
                Matcher says = SAYS.matcher(Files.readString(file, StandardCharsets.UTF_8));
                while (says.find()) {
                    int promise = Integer.parseInt(says.group(1));
                    String quote = says.group(2).replaceAll("\"\\s*\\+\\s*\"", "").replaceAll("\"", "");
                    markOne(parts.get(promise), tested.get(promise), quote, file + ": promise " + promise + ": " + quote);
                }
            }
        }
    }

    private static void markOne(String part, boolean[] tested, String quote, String what) {
        int at = part.indexOf(quote);
        check.due("in the document stands, as of " + what, at >= 0 ? 1 : 0, 1);
        for (int i = Math.max(0, at); at >= 0 && i < at + quote.length(); i++) {
            tested[i] = true;
        }
    }

    private static void everyBoundIsTested(int promise, String part, boolean[] tested) {
        Matcher bound = BOUND.matcher(part);
        while (bound.find()) {
            String about = part.substring(Math.max(0, bound.start() - 40), Math.min(part.length(), bound.end() + 20));
            check.due("promise " + promise + ", tested: .." + about + "..", tested[bound.start()] ? 1 : 0, 1);
        }
    }
}
