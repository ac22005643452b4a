import java.io.IOException;
import java.lang.reflect.Field;
import java.lang.reflect.Method;
import java.lang.reflect.Modifier;
import java.net.URI;
import java.net.URL;
import java.net.URLClassLoader;
import java.nio.file.DirectoryStream;
import java.nio.file.Files;
import java.nio.file.Path;
import java.util.ArrayList;
import java.util.List;
import java.util.Set;
import java.util.TreeSet;
import java.util.regex.Matcher;
import java.util.regex.Pattern;
import javax.tools.JavaCompiler;
import javax.tools.JavaFileObject;
import javax.tools.SimpleJavaFileObject;
import javax.tools.ToolProvider;

/**
 * README.md: its Java is compiled and run, and each answer that it shows is due; each call and each answer below 0 is
 * shown; its table of answers and its list of tests are whole. Arguments: the page, the directory of the tests.
 */
public final class ReadmeTest {
    private static final Pattern BLOCK = Pattern.compile("(?s)```java\n(.*?)```");
    private static final Pattern SHOWN = Pattern.compile("(x\\.(\\w+)\\(.*\\)); +// (-?\\d+|[A-Z]+): .+");
    private static final Pattern CONSTANT = Pattern.compile("(?m)^\\| (-?\\d+) \\| `([A-Z]+)` \\| .+ \\|$");
    private static final Pattern LISTED = Pattern.compile("(?m)^\\| `(\\w+Test)` \\| .+ \\|$");

    private static final Due due = new Due();
    private static final List<String> calls = new ArrayList<>();
    private static final List<Integer> answers = new ArrayList<>();
    private static final Set<String> callsShown = new TreeSet<>();
    private static final Set<String> namesShown = new TreeSet<>();

    public static void main(String[] args) throws Exception {
        String page = Files.readString(Path.of(args.length > 0 ? args[0] : "README.md"));
        Path tests = Path.of(args.length > 1 ? args[1] : "src/test/java");
        int[] got = run(written(page));
        for (int i = 0; i < got.length; i++) {
            due.is("what is shown of " + calls.get(i), got[i], answers.get(i));
        }
        due.is("answers that are shown", got.length, calls.size());
        due.is("calls that are shown", callsShown.toString(), methods().toString());
        due.is("answers below 0 that are shown", namesShown.toString(), constants().toString());
        due.is("answers below 0 of the table", table(page).toString(), constants().toString());
        due.is("tests that are listed", listed(page).toString(), tests(tests).toString());
        due.end();
    }

    /** The page's Java as one class, each block as a method of its own; what is shown is kept to compare with. */
    private static String written(String page) throws ReflectiveOperationException {
        StringBuilder code = new StringBuilder("public final class Shown {\nstatic int[] got = new int[9999];\nstatic int n;\n");
        StringBuilder all = new StringBuilder("public static int[] all() {\n");
        Matcher blocks = BLOCK.matcher(page);
        for (int b = 0; blocks.find(); b++) {
            code.append("static void block").append(b).append("() {\n");
            for (String line : blocks.group(1).split("\n")) {
                code.append(line.startsWith("x.") ? shown(line) : line).append('\n');
            }
            code.append("}\n");
            all.append("block").append(b).append("();\n");
        }
        return code.append(all).append("return java.util.Arrays.copyOf(got, n);\n}\n}\n").toString();
    }

    private static String shown(String line) throws ReflectiveOperationException {
        Matcher shown = SHOWN.matcher(line);
        due.holds("an answer is shown by: " + line, shown.matches());
        if (!shown.matches()) {
            return line;
        }
        String answer = shown.group(3);
        boolean named = Character.isLetter(answer.charAt(0));
        calls.add(shown.group(1));
        answers.add(named ? ArmSignals.class.getField(answer).getInt(null) : Integer.parseInt(answer));
        callsShown.add(shown.group(2));
        if (named) {
            namesShown.add(answer);
        }
        return "got[n++] = " + shown.group(1) + ";";
    }

    private static int[] run(String code) throws IOException, ReflectiveOperationException {
        JavaCompiler compiler = ToolProvider.getSystemJavaCompiler();
        due.holds("there is a compiler", compiler != null);
        if (compiler == null) {
            return new int[0];
        }
        Path out = Files.createTempDirectory("readme");
        List<String> options = List.of("-d", out.toString(), "-proc:none", "-classpath", System.getProperty("java.class.path"));
        boolean compiled = compiler.getTask(null, null, null, options, null, List.of(source(code))).call();
        due.holds("the page's Java compiles", compiled);
        int[] got = compiled ? answersOf(out) : new int[0];
        Files.deleteIfExists(out.resolve("Shown.class"));
        Files.deleteIfExists(out);
        return got;
    }

    private static JavaFileObject source(String code) {
        return new SimpleJavaFileObject(URI.create("string:///Shown.java"), JavaFileObject.Kind.SOURCE) {
            @Override
            public CharSequence getCharContent(boolean ignoreEncodingErrors) {
                return code;
            }
        };
    }

    private static int[] answersOf(Path out) throws IOException, ReflectiveOperationException {
        try (URLClassLoader loader = new URLClassLoader(new URL[] {out.toUri().toURL()})) {
            return (int[]) loader.loadClass("Shown").getMethod("all").invoke(null);
        }
    }

    private static Set<String> methods() {
        Set<String> names = new TreeSet<>();
        for (Method method : ArmSignals.class.getDeclaredMethods()) {
            if (Modifier.isPublic(method.getModifiers())) {
                names.add(method.getName());
            }
        }
        return names;
    }

    private static Set<String> constants() {
        Set<String> names = new TreeSet<>();
        for (Field field : ArmSignals.class.getDeclaredFields()) {
            if (Modifier.isPublic(field.getModifiers())) {
                names.add(field.getName());
            }
        }
        return names;
    }

    private static Set<String> table(String page) throws ReflectiveOperationException {
        Set<String> names = new TreeSet<>();
        Matcher rows = CONSTANT.matcher(page);
        while (rows.find()) {
            int number = ArmSignals.class.getField(rows.group(2)).getInt(null);
            due.is("the table's " + rows.group(2), Integer.parseInt(rows.group(1)), number);
            names.add(rows.group(2));
        }
        return names;
    }

    private static Set<String> listed(String page) {
        Set<String> names = new TreeSet<>();
        Matcher rows = LISTED.matcher(page);
        while (rows.find()) {
            names.add(rows.group(1));
        }
        return names;
    }

    private static Set<String> tests(Path directory) throws IOException {
        Set<String> names = new TreeSet<>();
        try (DirectoryStream<Path> files = Files.newDirectoryStream(directory, "*Test.java")) {
            for (Path file : files) {
                names.add(file.getFileName().toString().replace(".java", ""));
            }
        }
        return names;
    }
}
