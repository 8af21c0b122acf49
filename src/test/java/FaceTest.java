import java.lang.reflect.Constructor;
import java.lang.reflect.Field;
import java.lang.reflect.Method;
import java.lang.reflect.Modifier;
import java.util.Arrays;
import java.util.TreeSet;

/** The public face is the document's, and nothing beside it can be seen from outside. */
public final class FaceTest {
    private static int wrong = 0;

    public static void main(String[] args) {
        due("modifiers", Modifier.toString(PackExchange.class.getModifiers()), "public final");
        due("package", PackExchange.class.getPackageName(), "");
        due("constructors", constructors().toString(), "[public PackExchange()]");
        due("constants", constants().toString(), "[BAD = -1, DOWN = -2, FULL = -3, NONE = -4]");
        due("methods", String.join("\n", methods()), String.join("\n", new TreeSet<>(Arrays.asList(METHODS))));
        due("private methods with a public name", hiddenNames().toString(), "[]");
        due("classes inside that are not static", innerClasses().toString(), "[]");
        System.out.println(wrong == 0 ? "the face is as due" : wrong + " parts of the face are not as due");
        if (wrong != 0) {
            System.exit(1);
        }
    }

    private static final String[] METHODS = {
        "public int blob(int, int)", "public int tree(int, int, int)", "public int commit(int, int, int, int)",
        "public int point(int, int, int)", "public int fetch(int, int)", "public int push(int, int)",
        "public boolean arm(int, int)", "public int recover(int)", "public int collect(int)",
        "public boolean up(int)", "public int reference(int, int)", "public int holds(int, int)",
        "public int count(int)", "public int talk(int)", "public int packed()", "public int packAt(int)",
        "public int base(int)", "public int weight()", "public int verdict(int)"};

    private static void due(String what, String got, String want) {
        if (!got.equals(want)) {
            wrong++;
            System.out.println(what + ": " + got + "\n  due is: " + want);
        }
    }

    private static TreeSet<String> constructors() {
        TreeSet<String> found = new TreeSet<>();
        for (Constructor<?> constructor : PackExchange.class.getDeclaredConstructors()) {
            found.add(constructor.toString());
        }
        return found;
    }

    private static TreeSet<String> constants() {
        TreeSet<String> found = new TreeSet<>();
        for (Field field : PackExchange.class.getDeclaredFields()) {
            if (!Modifier.isPrivate(field.getModifiers())) {
                found.add(field.getName() + " = " + valueOf(field));
            }
        }
        return found;
    }

    private static String valueOf(Field field) {
        try {
            boolean constant = Modifier.toString(field.getModifiers()).equals("public static final");
            return constant && field.getType() == int.class ? "" + field.getInt(null) : "no constant";
        } catch (IllegalAccessException hidden) {
            return "hidden";
        }
    }

    private static TreeSet<String> methods() {
        TreeSet<String> found = new TreeSet<>();
        for (Method method : PackExchange.class.getDeclaredMethods()) {
            if (!Modifier.isPrivate(method.getModifiers())) {
                String parameters = Arrays.toString(method.getParameterTypes()).replace("[", "(").replace("]", ")");
                found.add(Modifier.toString(method.getModifiers()) + " " + method.getReturnType() + " "
                        + method.getName() + parameters);
            }
        }
        return found;
    }

    private static TreeSet<String> hiddenNames() {
        TreeSet<String> names = new TreeSet<>();
        for (Method method : PackExchange.class.getMethods()) {
            names.add(method.getName());
        }
        TreeSet<String> found = new TreeSet<>();
        for (Method method : PackExchange.class.getDeclaredMethods()) {
            if (Modifier.isPrivate(method.getModifiers()) && names.contains(method.getName())) {
                found.add(method.getName());
            }
        }
        return found;
    }

    private static TreeSet<String> innerClasses() {
        TreeSet<String> found = new TreeSet<>();
        for (Class<?> inside : PackExchange.class.getDeclaredClasses()) {
            if (!Modifier.isStatic(inside.getModifiers()) || Modifier.isPublic(inside.getModifiers())) {
                found.add(inside.getName());
            }
        }
        return found;
    }
}
