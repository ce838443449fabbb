import java.lang.reflect.Constructor;
import java.lang.reflect.Field;
import java.lang.reflect.Method;
import java.lang.reflect.Modifier;
import java.util.ArrayList;
import java.util.Arrays;
import java.util.List;
import java.util.TreeSet;

/** The class shows just the document's face, and no private method bears a public name. */
public final class FaceTests {
    private static final String[] FACE = {
        "int pass(int)", "int thing(int, int, int, int)", "int about(int, int)", "int draw(int, int)",
        "int allow(int, boolean, int)", "int move(int, int)", "int trial(int, int, int, int)", "int told(int, int)",
        "int error(int)", "int span(int)", "int settled(int)", "int due(int)", "int left(int)", "int chain(int, int)",
        "int unsettled()", "int judge(int)", "int stays(int)", "int seal(int, int)", "int sealed(int)",
        "int charge(int)", "long charged(int)", "int first(int)", "int count(int)"};
    private static final String[] CONSTANTS = {"UNKNOWN -1", "OUTSIDE -2", "STATE -3", "FULL -4", "NONE -1000000"};

    private static final List<String> wrong = new ArrayList<>();

    public static void main(String[] args) throws IllegalAccessException {
        Class<?> c = TrueWeights.class;
        same("class", Modifier.toString(c.getModifiers()), "public final");
        constructors(c);
        methods(c);
        fields(c);
        nested(c);
        for (String line : wrong) System.out.println(line);
        System.out.println(wrong.isEmpty() ? "the face is as due" : wrong.size() + " parts of the face are not as due");
        if (!wrong.isEmpty()) System.exit(1);
    }

    private static void same(String what, Object got, Object want) {
        if (!got.equals(want)) wrong.add(what + " is " + got + ", due is " + want);
    }

    private static void constructors(Class<?> c) {
        Constructor<?>[] all = c.getDeclaredConstructors();
        same("constructors", all.length, 1);
        same("constructor", all[0].toString(), "public TrueWeights()");
    }

    private static void methods(Class<?> c) {
        TreeSet<String> names = new TreeSet<>();
        for (String line : FACE) names.add(line.substring(line.indexOf(' ') + 1, line.indexOf('(')));
        TreeSet<String> shown = new TreeSet<>();
        for (Method m : c.getDeclaredMethods()) {
            if (Modifier.isPrivate(m.getModifiers())) {
                if (names.contains(m.getName())) wrong.add("private method " + m.getName() + " bears a public name");
                continue;
            }
            same("modifiers of " + m.getName(), Modifier.toString(m.getModifiers()), "public");
            StringBuilder line = new StringBuilder(m.getReturnType() + " " + m.getName() + "(");
            for (Class<?> p : m.getParameterTypes()) line.append(line.charAt(line.length() - 1) == '(' ? "" : ", ").append(p);
            shown.add(line.append(')').toString());
        }
        same("methods", shown, new TreeSet<>(Arrays.asList(FACE)));
    }

    private static void fields(Class<?> c) throws IllegalAccessException {
        TreeSet<String> shown = new TreeSet<>();
        for (Field f : c.getDeclaredFields()) {
            if (Modifier.isStatic(f.getModifiers()) && !Modifier.isFinal(f.getModifiers())) wrong.add("static field " + f.getName() + " is not final");
            if (Modifier.isPrivate(f.getModifiers())) continue;
            same("modifiers of " + f.getName(), Modifier.toString(f.getModifiers()), "public static final");
            same("type of " + f.getName(), f.getType(), int.class);
            shown.add(f.getName() + " " + f.getInt(null));
        }
        same("constants", shown, new TreeSet<>(Arrays.asList(CONSTANTS)));
    }

    private static void nested(Class<?> c) {
        for (Class<?> inside : c.getDeclaredClasses()) {
            int modifiers = inside.getModifiers();
            if (!Modifier.isStatic(modifiers)) wrong.add(inside + " is not static");
            if (Modifier.isPublic(modifiers) || Modifier.isProtected(modifiers)) wrong.add(inside + " is public or protected");
        }
    }
}
