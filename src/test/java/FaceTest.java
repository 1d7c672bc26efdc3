import java.lang.reflect.Constructor;
import java.lang.reflect.Field;
import java.lang.reflect.Method;
import java.lang.reflect.Modifier;
import java.util.Arrays;
import java.util.Set;
import java.util.TreeSet;

/** The class has the document's face and nothing else that can be seen from outside. */
final class FaceTest {
    private FaceTest() {
    }

    public static void main(String[] args) {
        Class<?> face = StrokePieces.class;
        Check.due("public and final", face.getModifiers(), Modifier.PUBLIC | Modifier.FINAL);
        same("fields", seenFields(face), "BAD", "NO", "FULL", "RANGE");
        same("methods", seenMethods(face),
                "int move(int, int)", "int line(int, int)", "int close()", "int clear()",
                "boolean pen(int, int, int, int)", "boolean length(int, int)", "boolean dashes(int, int)",
                "int stroke()", "int pieces()", "int sort(int)", "int corner(int, int, int)", "int walked()");
        Check.due("constructors", face.getDeclaredConstructors().length, 1);
        for (Constructor<?> c : face.getDeclaredConstructors()) {
            Check.due("the constructor is public", Modifier.isPublic(c.getModifiers()), true);
            Check.due("its arguments", c.getParameterCount(), 0);
        }
        noPrivateMethodBearsAPublicName(face);
        Check.due("BAD", StrokePieces.BAD, -1);
        Check.due("NO", StrokePieces.NO, -2);
        Check.due("FULL", StrokePieces.FULL, -3);
        Check.due("RANGE", StrokePieces.RANGE, -4);
        Check.end();
    }

    private static void same(String what, Set<String> got, String... want) {
        Set<String> due = new TreeSet<>(Arrays.asList(want));
        boolean alike = got.equals(due);
        if (!alike) {
            System.out.println(what + " are " + got + ", due are " + due);
        }
        Check.due(what, alike, true);
    }

    private static Set<String> seenFields(Class<?> face) {
        Set<String> names = new TreeSet<>();
        for (Field f : face.getDeclaredFields()) {
            if (!Modifier.isPrivate(f.getModifiers())) {
                names.add(f.getName());
                Check.due(f.getName(), f.getModifiers(), Modifier.PUBLIC | Modifier.STATIC | Modifier.FINAL);
            }
        }
        return names;
    }

    private static Set<String> seenMethods(Class<?> face) {
        Set<String> names = new TreeSet<>();
        for (Method m : face.getDeclaredMethods()) {
            if (!Modifier.isPrivate(m.getModifiers())) {
                names.add(m.getReturnType() + " " + m.getName() + Arrays.toString(m.getParameterTypes())
                        .replace('[', '(').replace(']', ')'));
                Check.due(m.getName(), m.getModifiers(), Modifier.PUBLIC);
            }
        }
        return names;
    }

    private static void noPrivateMethodBearsAPublicName(Class<?> face) {
        Set<String> seen = new TreeSet<>();
        for (Method m : face.getMethods()) {
            seen.add(m.getName());
        }
        for (Method m : face.getDeclaredMethods()) {
            if (Modifier.isPrivate(m.getModifiers())) {
                Check.due("a private " + m.getName(), seen.contains(m.getName()), false);
            }
        }
    }
}
