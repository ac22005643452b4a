import java.lang.reflect.Constructor;
import java.lang.reflect.Field;
import java.lang.reflect.Method;
import java.lang.reflect.Modifier;
import java.util.ArrayList;
import java.util.Collections;
import java.util.List;

/** The public face: what the document names, and nothing else that is not private. */
public final class FaceTest {
    private static final String[] METHODS = {
        "sign(int,int)", "letter(int,int)", "apart(int,int)", "say(int)", "back()", "keep()", "lose(int)", "call(int)",
        "tell(int,int)", "said(int,int)", "count(int)", "least(int)", "arm(int,int)", "brief(int)", "nearest(int)",
        "slips(int)", "still(int,int,int)", "type(int)", "read()", "drift(int)", "undo()", "seed(int)", "image()",
        "restore()", "seen(int,int,int,int)", "film(int,int,int)", "sheet(int,int,int)", "drop(int)",
        "item(int,int,int,long)", "copy(int,int,int,int,int)"};

    public static void main(String[] args) {
        Due due = new Due();
        due.holds("the class is public and final",
            ArmSignals.class.getModifiers() == (Modifier.PUBLIC | Modifier.FINAL));
        constants(due);
        methods(due);
        Constructor<?>[] made = ArmSignals.class.getDeclaredConstructors();
        due.is("constructors", made.length, 1);
        due.holds("the constructor is public, without arguments",
            made[0].getModifiers() == Modifier.PUBLIC && made[0].getParameterCount() == 0);
        for (Class<?> inside : ArmSignals.class.getDeclaredClasses()) {
            due.holds(inside + " is static", Modifier.isStatic(inside.getModifiers()));
        }
        due.end();
    }

    private static void constants(Due due) {
        due.is("BAD", ArmSignals.BAD, -1);
        due.is("NOT", ArmSignals.NOT, -2);
        due.is("FULL", ArmSignals.FULL, -3);
        due.is("NONE", ArmSignals.NONE, -4);
        due.is("NULL", ArmSignals.NULL, -11);
        due.is("CAST", ArmSignals.CAST, -12);
        due.is("INDEX", ArmSignals.INDEX, -13);
        due.is("SIZE", ArmSignals.SIZE, -14);
        int open = 0;
        for (Field field : ArmSignals.class.getDeclaredFields()) {
            int flags = field.getModifiers();
            if (!Modifier.isPrivate(flags)) {
                open++;
                due.holds(field + " is a constant", flags == (Modifier.PUBLIC | Modifier.STATIC | Modifier.FINAL));
            }
            due.holds(field + " is final, if static", !Modifier.isStatic(flags) || Modifier.isFinal(flags));
        }
        due.is("constants", open, 8);
    }

    private static void methods(Due due) {
        List<String> open = new ArrayList<>();
        List<String> names = new ArrayList<>();
        for (Method method : ArmSignals.class.getDeclaredMethods()) {
            if (!Modifier.isPrivate(method.getModifiers())) {
                names.add(method.getName());
                open.add(written(method));
                due.holds(method + " is public alone", method.getModifiers() == Modifier.PUBLIC);
                due.holds(method + " answers an int", method.getReturnType() == int.class);
            }
        }
        for (Method method : ArmSignals.class.getDeclaredMethods()) {
            boolean hidden = Modifier.isPrivate(method.getModifiers());
            due.holds(method + " has a name of its own", !hidden || !names.contains(method.getName()));
        }
        List<String> asked = new ArrayList<>(List.of(METHODS));
        Collections.sort(open);
        Collections.sort(asked);
        due.holds("methods: " + open, open.equals(asked));
    }

    private static String written(Method method) {
        List<String> types = new ArrayList<>();
        for (Class<?> type : method.getParameterTypes()) {
            types.add(type.getName());
        }
        return method.getName() + "(" + String.join(",", types) + ")";
    }
}
