import java.nio.file.Files;
import java.nio.file.Path;
import java.util.List;
import java.util.Set;
import java.util.TreeSet;
import java.util.regex.Matcher;
import java.util.regex.Pattern;

/** What of LANGUAGE.md can be seen in the source's letters. The first argument names the source. */
public final class LanguageTest {
    private static final Set<String> LIBRARY = Set.of("Math.min", "Math.max", "Integer.bitCount",
        "System.arraycopy", "Arrays.fill");

    public static void main(String[] args) throws Exception {
        Due due = new Due();
        String source = Files.readString(Path.of(args.length > 0 ? args[0] : "src/main/java/ArmSignals.java"));
        String code = source.replaceAll("(?s)/\\*.*?\\*/", "").replaceAll("//[^\n]*", "");
        for (String word : List.of("package", "throw", "throws", "try", "catch", "finally", "synchronized", "assert",
            "protected", "native", "volatile", "transient", "double", "float")) {
            due.holds("no " + word, !Pattern.compile("\\b" + word + "\\b").matcher(code).find());
        }
        for (String sign : List.of("->", "::", "@", "%=", "static {")) {
            due.holds("no " + sign, !code.contains(sign));
        }
        due.holds("no Exact", !code.contains("Exact"));
        due.holds("no library but what is listed", library(code).isEmpty());
        due.holds("signs of 1 .. 127 alone", source.chars().allMatch(c -> c < 128));
        due.is("one import", count(code, "\\bimport\\b"), 1);
        due.holds("at most twelve classes", count(code, "\\bclass\\b") <= 12);
        due.holds("a loop by while has no counter of its own", !Pattern.compile("\\bwhile\\b").matcher(code).find());
        // What is made is made with the object: a call makes nothing.
        due.is("new stands in fields and constructors alone", count(code, "\\bnew\\b"),
            count(code, "final [^\n=]*= new\\b") + count(code, "\\[i\\] = new\\b"));
        due.holds("methods of some sixty lines", longest(code) <= 60);
        due.end();
    }

    private static Set<String> library(String code) {
        Set<String> others = new TreeSet<>();
        Matcher calls = Pattern.compile("\\b([A-Z][A-Za-z]*\\.[a-z][A-Za-z]*)\\(").matcher(code);
        while (calls.find()) {
            if (!LIBRARY.contains(calls.group(1))) {
                others.add(calls.group(1));
                System.out.println(calls.group(1) + " is not listed");
            }
        }
        return others;
    }

    private static int count(String code, String pattern) {
        return (int) Pattern.compile(pattern).matcher(code).results().count();
    }

    /** The lines of the longest method: methods end by a brace at 4 or 8 blanks, as they begin. */
    private static int longest(String code) {
        int longest = 0;
        Matcher methods = Pattern.compile("(?m)^( {4}| {8})[a-z][^\n;=]*\\) \\{\n(.*\n)*?\\1\\}$").matcher(code);
        while (methods.find()) {
            longest = Math.max(longest, (int) methods.group().lines().count());
        }
        return longest;
    }
}
