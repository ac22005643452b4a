import java.io.IOException;
import java.nio.file.DirectoryStream;
import java.nio.file.Files;
import java.nio.file.Path;
import java.util.ArrayList;
import java.util.List;
import java.util.Map;
import java.util.TreeMap;
import java.util.regex.Matcher;
import java.util.regex.Pattern;

/**
 * Whether each sentence of the Terms and of the promises stands behind a says of a test, and whether what
 * tests quote stands in the document. Arguments: the document, the directory of the tests.
 */
public final class SentencesTest {
    private static final Pattern QUOTE =
        Pattern.compile("\\.says\\((\\d+),\\s*((?:\"(?:[^\"\\\\]|\\\\.)*\"\\s*\\+?\\s*)+)\\)");

    private static final Due due = new Due();

    public static void main(String[] args) throws IOException {
        Path document = Path.of(args.length > 0 ? args[0] : "../shared/DOC.md");
        Path tests = Path.of(args.length > 1 ? args[1] : "src/test/java");
        Map<Integer, String> sections = sections(Files.readString(document));
        due.is("the Terms and 31 promises", sections.size(), 32);
        Map<Integer, boolean[]> quoted = new TreeMap<>();
        sections.forEach((promise, text) -> quoted.put(promise, new boolean[text.length()]));
        for (String source : sources(tests)) {
            Matcher quotes = QUOTE.matcher(source);
            while (quotes.find()) {
                int promise = Integer.parseInt(quotes.group(1));
                mark(sections.get(promise), quoted.get(promise), joined(quotes.group(2)));
            }
        }
        sections.forEach((promise, text) -> due.is("words of promise " + promise + " (0: the Terms) that no test quotes",
            unquoted(text, quoted.get(promise)), ""));
        due.end();
    }

    private static List<String> sources(Path tests) throws IOException {
        List<String> sources = new ArrayList<>();
        try (DirectoryStream<Path> files = Files.newDirectoryStream(tests, "*Test.java")) {
            for (Path file : files) {
                sources.add(Files.readString(file));
            }
        }
        return sources;
    }

    /** The literals of a quote, without what joins them. */
    private static String joined(String literals) {
        return literals.replaceAll("\"\\s*\\+\\s*\"", "").replaceAll("^\\s*\"|\"\\s*$", "").replace("\\\"", "\"");
    }

    private static void mark(String text, boolean[] quoted, String words) {
        int at = text.indexOf(words);
        due.holds("the document says \"" + words + "\"", at >= 0);
        for (; at >= 0; at = text.indexOf(words, at + 1)) {
            for (int i = at; i < at + words.length(); i++) {
                quoted[i] = true;
            }
        }
    }

    private static String unquoted(String text, boolean[] quoted) {
        StringBuilder left = new StringBuilder();
        for (int i = 0; i < text.length(); i++) {
            if (!quoted[i]) {
                left.append(text.charAt(i));
            }
        }
        return left.toString().trim();
    }

    /** The Terms as 0, each promise by its number, without headings, fences and what is ahead of a promise's text. */
    private static Map<Integer, String> sections(String document) {
        Map<Integer, String> sections = new TreeMap<>();
        int promise = -1;
        for (String line : document.split("\n")) {
            Matcher heading = Pattern.compile("## Promise (\\d+):.*").matcher(line);
            if (line.startsWith("## ")) {
                promise = heading.matches() ? Integer.parseInt(heading.group(1)) : line.equals("## Terms") ? 0 : -1;
            } else if (promise >= 0 && !line.startsWith("```")) {
                sections.merge(promise, bare(line), (ahead, more) -> (ahead + " " + more).trim());
            }
        }
        return sections;
    }

    private static String bare(String line) {
        if (line.startsWith("Ahead of the calls") && !line.contains("sheets 0 .. 3")) {
            return "";
        }
        return line.replaceAll("^Ahead of the calls .* the interface says: ---- ", "").replaceAll("^==== \\d ", "")
            .replaceAll("^`[^`]*`: ", "").trim();
    }
}
