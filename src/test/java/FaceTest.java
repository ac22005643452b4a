import java.io.IOException;
import java.lang.reflect.Constructor;
import java.lang.reflect.Field;
import java.lang.reflect.Method;
import java.lang.reflect.Modifier;
import java.nio.file.Files;
import java.nio.file.Path;
import java.util.ArrayList;
import java.util.Collections;
import java.util.List;
import java.util.regex.Matcher;
import java.util.regex.Pattern;

/**
 * The public face: what the document names, and nothing else that is not private. The first argument names the
 * document.
 */
public final class FaceTest {
    private static final Pattern ASKED = Pattern.compile("    public int (\\w+)\\((.*)\\);");

    public static void main(String[] args) throws IOException {
        Due due = new Due();
        String document = Files.readString(Path.of(args.length > 0 ? args[0] : "../shared/DOC.md"));
        due.holds("the class is public and final",
            ArmSignals.class.getModifiers() == (Modifier.PUBLIC | Modifier.FINAL));
        constants(due);
        methods(due, asked(document));
        Constructor<?>[] made = ArmSignals.class.getDeclaredConstructors();
        due.is("constructors", made.length, 1);
        due.holds("the constructor is public, without arguments",
            made[0].getModifiers() == Modifier.PUBLIC && made[0].getParameterCount() == 0);
        for (Class<?> inside : ArmSignals.class.getDeclaredClasses()) {
            due.holds(inside + " is static", Modifier.isStatic(inside.getModifiers()));
        }
        due.end();
    }

    private static void constants(Due due) {
        due.is("BAD", ArmSignals.BAD, -1);
        due.is("NOT", ArmSignals.NOT, -2);
        due.is("FULL", ArmSignals.FULL, -3);
        due.is("NONE", ArmSignals.NONE, -4);
        due.is("NULL", ArmSignals.NULL, -11);
        due.is("CAST", ArmSignals.CAST, -12);
        due.is("INDEX", ArmSignals.INDEX, -13);
        due.is("SIZE", ArmSignals.SIZE, -14);
        int open = 0;
        for (Field field : ArmSignals.class.getDeclaredFields()) {
            int flags = field.getModifiers();
            if (!Modifier.isPrivate(flags)) {
                open++;
                due.holds(field + " is a constant", flags == (Modifier.PUBLIC | Modifier.STATIC | Modifier.FINAL));
            }
            due.holds(field + " is final, if static", !Modifier.isStatic(flags) || Modifier.isFinal(flags));
        }
        due.is("constants", open, 8);
    }

    private static void methods(Due due, List<String> asked) {
        List<String> open = new ArrayList<>();
        List<String> names = new ArrayList<>();
        for (Method method : ArmSignals.class.getDeclaredMethods()) {
            if (!Modifier.isPrivate(method.getModifiers())) {
                names.add(method.getName());
                open.add(written(method));
                due.holds(method + " is public alone", method.getModifiers() == Modifier.PUBLIC);
                due.holds(method + " answers an int", method.getReturnType() == int.class);
            }
        }
        for (Method method : ArmSignals.class.getDeclaredMethods()) {
            boolean hidden = Modifier.isPrivate(method.getModifiers());
            due.holds(method + " has a name of its own", !hidden || !names.contains(method.getName()));
        }
        Collections.sort(open);
        Collections.sort(asked);
        due.is("how many methods the document asks for", asked.size(), 30);
        due.is("the methods", open.toString(), asked.toString());
    }

    /** The methods of the document's face, as they are written here. */
    private static List<String> asked(String document) {
        List<String> methods = new ArrayList<>();
        Matcher lines = ASKED.matcher(document);
        while (lines.find()) {
            methods.add(lines.group(1) + "(" + lines.group(2).replaceAll("(\\w+) \\w+", "$1").replace(" ", "") + ")");
        }
        return methods;
    }

    private static String written(Method method) {
        List<String> types = new ArrayList<>();
        for (Class<?> type : method.getParameterTypes()) {
            types.add(type.getName());
        }
        return method.getName() + "(" + String.join(",", types) + ")";
    }
}
