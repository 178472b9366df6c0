import java.lang.reflect.Constructor;
import java.lang.reflect.Field;
import java.lang.reflect.Method;
import java.lang.reflect.Modifier;
import java.util.Arrays;
import java.util.Set;
import java.util.TreeSet;

/** The public face is the document's, and the members keep to rules 1, 5 and 11 of LANGUAGE.md. */
public final class FaceTest {
    private static final Set<String> METHODS = new TreeSet<>(Arrays.asList(
            "boolean handler(int, int, int, int, int)", "boolean limit(int, int, int, int)",
            "int step(int, int, int)", "boolean ceiling(int, int)", "boolean frame(int, int)",
            "int place(int, int)", "int begin(int, int)", "int run(int)", "int call(int)", "boolean stop()",
            "int of(int, int)", "int memory(int, int)", "int desk(int)", "int event(int)"));
    private static final Set<String> CONSTANTS = new TreeSet<>(Arrays.asList("REFUSED", "NONE", "FULL"));

    private static int wrong;

    public static void main(String[] args) {
        Class<?> face = MissionDesk.class;
        due(face.getModifiers() == (Modifier.PUBLIC | Modifier.FINAL), "the class is public and final");
        methods(face);
        constructors(face);
        constants(face);
        for (Class<?> inside : face.getDeclaredClasses()) {
            due(Modifier.isStatic(inside.getModifiers()), inside.getName() + " is static");
            due(!Modifier.isPublic(inside.getModifiers()), inside.getName() + " is not public");
            fields(inside);
        }
        fields(face);
        due(face.getDeclaredClasses().length <= 15, "some twelve classes");
        System.out.println("the face: " + wrong + " wrong");
        if (wrong != 0) {
            System.exit(1);
        }
    }

    private static void methods(Class<?> face) {
        Set<String> found = new TreeSet<>();
        for (Method method : face.getDeclaredMethods()) {
            due(method.getParameterCount() <= 7, method + " has at most seven parameters");
            if (Modifier.isPrivate(method.getModifiers())) {
                due(!isFaceName(method.getName()), method + " has a name of its own");
            } else {
                String parameters = Arrays.toString(method.getParameterTypes());
                found.add(method.getReturnType() + " " + method.getName()
                        + "(" + parameters.substring(1, parameters.length() - 1) + ")");
                due(method.getModifiers() == Modifier.PUBLIC, method + " is public and nothing else");
            }
        }
        due(found.equals(METHODS), "the methods are the document's, but are " + found);
    }

    private static void constructors(Class<?> face) {
        Constructor<?>[] constructors = face.getDeclaredConstructors();
        due(constructors.length == 1 && constructors[0].getParameterCount() == 0
                && Modifier.isPublic(constructors[0].getModifiers()), "one public constructor without parameters");
    }

    private static void constants(Class<?> face) {
        Set<String> found = new TreeSet<>();
        for (Field field : face.getDeclaredFields()) {
            if (!Modifier.isPrivate(field.getModifiers())) {
                found.add(field.getName());
                due(field.getModifiers() == (Modifier.PUBLIC | Modifier.STATIC | Modifier.FINAL)
                        && field.getType() == int.class, field + " is a public constant int");
            }
        }
        due(found.equals(CONSTANTS), "the constants are the document's, but are " + found);
        due(MissionDesk.REFUSED == -1 && MissionDesk.NONE == -2 && MissionDesk.FULL == -3, "their values");
    }

    private static void fields(Class<?> type) {
        int fields = 0;
        for (Field field : type.getDeclaredFields()) {
            if (!Modifier.isStatic(field.getModifiers())) {
                fields++;
            } else {
                due(Modifier.isFinal(field.getModifiers()), field + " is final");
            }
        }
        due(fields <= 25, type.getName() + " has some twenty fields, but has " + fields);
    }

    private static boolean isFaceName(String name) {
        for (String method : METHODS) {
            if (method.contains(" " + name + "(")) {
                return true;
            }
        }
        return false;
    }

    private static void due(boolean holds, String what) {
        if (!holds) {
            wrong++;
            System.out.println("does not hold: " + what);
        }
    }
}
