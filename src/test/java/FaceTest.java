import java.lang.reflect.Constructor;
import java.lang.reflect.Field;
import java.lang.reflect.Method;
import java.lang.reflect.Modifier;
import java.util.Arrays;
import java.util.TreeSet;

/** The public face: the constant, the constructor and the twelve methods, and nothing else. */
public final class FaceTest {
    private static final String[] FACE = {
        "boolean drop(int)", "boolean input(int,int)", "boolean output(int,int)",
        "boolean source(int,int)", "boolean spoil(int)", "boolean step(int,int,int,int)",
        "int begun(int,int) NoSuchElementException",
        "int build(int,int) IllegalArgumentException IllegalStateException",
        "int content(int) NoSuchElementException", "int count(int)",
        "int cycle(int) NoSuchElementException", "int reason(int)"};

    public static void main(String[] args) {
        Class<?> face = BuildDesk.class;
        Check.yes("public and final",
                Modifier.isPublic(face.getModifiers()) && Modifier.isFinal(face.getModifiers()));
        Check.due("NONE", BuildDesk.NONE, -1);
        methods(face);
        fields(face);
        constructors(face);
        for (Class<?> inside : face.getDeclaredClasses()) {
            Check.yes(inside.getName() + " is static", Modifier.isStatic(inside.getModifiers()));
            Check.no(inside.getName() + " is public", Modifier.isPublic(inside.getModifiers()));
        }
        Check.end();
    }

    private static void methods(Class<?> face) {
        TreeSet<String> open = new TreeSet<>();
        TreeSet<String> names = new TreeSet<>();
        for (String line : FACE) {
            names.add(line.substring(line.indexOf(' ') + 1, line.indexOf('(')));
        }
        for (Method m : face.getDeclaredMethods()) {
            if (m.isSynthetic()) {
                continue;
            }
            if (Modifier.isPrivate(m.getModifiers())) {
                Check.no("private " + m.getName() + " bears a public name", names.contains(m.getName()));
                continue;
            }
            Check.yes(m.getName() + " is public", Modifier.isPublic(m.getModifiers()));
            Check.no(m.getName() + " is static", Modifier.isStatic(m.getModifiers()));
            String parameters = Arrays.toString(m.getParameterTypes())
                    .replace("[", "(").replace("]", ")").replace(" ", "");
            open.add(m.getReturnType() + " " + m.getName() + parameters + thrownBy(m));
        }
        Check.due("methods", open.toString(), new TreeSet<>(Arrays.asList(FACE)).toString());
    }

    private static String thrownBy(Method m) {
        StringBuilder names = new StringBuilder();
        for (Class<?> thrown : m.getExceptionTypes()) {
            names.append(' ').append(thrown.getSimpleName());
        }
        return names.toString();
    }

    private static void fields(Class<?> face) {
        for (Field f : face.getDeclaredFields()) {
            boolean isConstant = f.getName().equals("NONE") && Modifier.isPublic(f.getModifiers())
                    && Modifier.isStatic(f.getModifiers()) && Modifier.isFinal(f.getModifiers());
            Check.yes("field " + f.getName() + " is private or the constant",
                    isConstant || Modifier.isPrivate(f.getModifiers()));
        }
    }

    private static void constructors(Class<?> face) {
        Constructor<?>[] all = face.getDeclaredConstructors();
        Check.due("constructors", all.length, 1);
        Check.yes("public constructor", Modifier.isPublic(all[0].getModifiers()));
        Check.due("its parameters", all[0].getParameterCount(), 0);
    }
}
