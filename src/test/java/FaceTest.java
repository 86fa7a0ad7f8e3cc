import java.lang.reflect.Constructor;
import java.lang.reflect.Field;
import java.lang.reflect.Method;
import java.lang.reflect.Modifier;
import java.util.Arrays;
import java.util.TreeSet;

/** The document's public face, and nothing else visible. */
final class FaceTest {
    private static final String ARGUMENT = " IllegalArgumentException";
    private static final String STATE = " IllegalStateException";

    private static final String[] FACE = {
        "void rotor(int,int,int,int,int)" + ARGUMENT + STATE, "void put(int)" + ARGUMENT,
        "int segment(int,int,int)" + ARGUMENT + STATE, "void start()" + STATE, "void stop()" + STATE,
        "void open()" + STATE, "void bolt(boolean,boolean)", "void shake(int)" + ARGUMENT,
        "void chamber(int)" + ARGUMENT, "void fail(int,int)" + ARGUMENT, "void power(boolean)" + STATE,
        "int tick(int)" + ARGUMENT, "int look(int)" + ARGUMENT, "long dose()", "long force()", "long plant()",
        "long record(int,int)" + ARGUMENT + " IndexOutOfBoundsException"};

    public static void main(String[] args) {
        Class<?> face = CentrifugeUnit.class;
        Due.isTrue("public and final", Modifier.isPublic(face.getModifiers()) && Modifier.isFinal(face.getModifiers()));
        constructorStandsAlone(face);
        methodsAreThose(face);
        fieldsArePrivate(face);
        innerClassesAreHidden(face);
        Due.end();
    }

    private static void constructorStandsAlone(Class<?> face) {
        Constructor<?>[] all = face.getDeclaredConstructors();
        Due.same("constructors", all.length, 1);
        Due.isTrue("public constructor without arguments",
                Modifier.isPublic(all[0].getModifiers()) && all[0].getParameterCount() == 0);
    }

    private static void methodsAreThose(Class<?> face) {
        TreeSet<String> seen = new TreeSet<>();
        TreeSet<String> names = new TreeSet<>();
        for (Method m : face.getDeclaredMethods()) {
            if (Modifier.isPublic(m.getModifiers())) {
                seen.add(written(m));
                names.add(m.getName());
                Due.isTrue(m.getName() + " is no static one", !Modifier.isStatic(m.getModifiers()));
            }
        }
        Due.isTrue("the face " + seen, seen.equals(new TreeSet<>(Arrays.asList(FACE))));
        for (Method m : face.getDeclaredMethods()) {
            if (!Modifier.isPublic(m.getModifiers())) {
                Due.isTrue(m + " is private, with a name of its own",
                        Modifier.isPrivate(m.getModifiers()) && !names.contains(m.getName()));
            }
        }
    }

    private static void fieldsArePrivate(Class<?> face) {
        for (Field f : face.getDeclaredFields()) {
            Due.isTrue(f + " is private", Modifier.isPrivate(f.getModifiers()));
        }
    }

    private static void innerClassesAreHidden(Class<?> face) {
        for (Class<?> c : face.getDeclaredClasses()) {
            Due.isTrue(c + " is hidden and static",
                    !Modifier.isPublic(c.getModifiers()) && !Modifier.isProtected(c.getModifiers())
                            && Modifier.isStatic(c.getModifiers()));
        }
    }

    private static String written(Method m) {
        StringBuilder text = new StringBuilder(m.getReturnType() + " " + m.getName() + "(");
        for (Class<?> p : m.getParameterTypes()) {
            text.append(text.charAt(text.length() - 1) == '(' ? "" : ",").append(p);
        }
        text.append(")");
        for (Class<?> e : m.getExceptionTypes()) {
            text.append(' ').append(e.getSimpleName());
        }
        return text.toString();
    }
}
