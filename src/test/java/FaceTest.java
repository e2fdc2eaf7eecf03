import java.lang.reflect.Field;
import java.lang.reflect.Method;
import java.lang.reflect.Modifier;
import java.util.Arrays;
import java.util.TreeSet;

/** The class has the document's face and nothing more that can be seen, and keeps no state but in its objects. */
public final class FaceTest {
    private static final String[] FACE = {
        "void type(long,int) IllegalArgumentException,IllegalStateException",
        "int line(int) IllegalArgumentException,IllegalStateException",
        "void clear(int) IllegalArgumentException",
        "int link() NoSuchElementException,IllegalStateException,UnsupportedOperationException",
        "int far() IllegalStateException",
        "int image(int) IllegalStateException,IndexOutOfBoundsException",
        "int place(int,int) IllegalStateException,IndexOutOfBoundsException",
        "int show(int) IllegalArgumentException",
        "int letter(int) IndexOutOfBoundsException",
        "int lines(int) IllegalArgumentException",
    };

    public static void main(String[] args) {
        Class<?> c = TwoPass.class;
        Bench.same("the class is", "public final", Modifier.toString(c.getModifiers()));
        TreeSet<String> seen = new TreeSet<>();
        TreeSet<String> names = new TreeSet<>();
        for (Method m : c.getDeclaredMethods()) {
            if (!Modifier.isPrivate(m.getModifiers()) && !m.isSynthetic()) {
                Bench.same(m.getName() + " is", "public", Modifier.toString(m.getModifiers()));
                seen.add(described(m));
                names.add(m.getName());
            }
        }
        Bench.same("the face", new TreeSet<>(Arrays.asList(FACE)).toString(), seen.toString());
        Bench.same("constructors", "1", Integer.toString(c.getDeclaredConstructors().length));
        stateIsPrivate(c);
        for (Class<?> inner : c.getDeclaredClasses()) {
            Bench.same(inner + " is static", "true", Boolean.toString(Modifier.isStatic(inner.getModifiers())));
            Bench.same(inner + " is public", "false", Boolean.toString(Modifier.isPublic(inner.getModifiers())));
            noneNamedAsTheFace(inner, names);
        }
        noneNamedAsTheFace(c, names);
        Bench.end();
    }

    private static String described(Method m) {
        StringBuilder text = new StringBuilder(m.getReturnType() + " " + m.getName() + "(");
        text.append(simple(m.getParameterTypes())).append(") ").append(simple(m.getExceptionTypes()));
        return text.toString();
    }

    private static String simple(Class<?>[] classes) {
        StringBuilder text = new StringBuilder();
        for (Class<?> c : classes) {
            text.append(text.length() == 0 ? "" : ",").append(c.getSimpleName());
        }
        return text.toString();
    }

    private static void stateIsPrivate(Class<?> c) {
        for (Field f : c.getDeclaredFields()) {
            Bench.same(f.getName() + " is private", "true", Boolean.toString(Modifier.isPrivate(f.getModifiers())));
            boolean constant = !Modifier.isStatic(f.getModifiers()) || Modifier.isFinal(f.getModifiers());
            Bench.same(f.getName() + " is no static state", "true", Boolean.toString(constant));
        }
    }

    private static void noneNamedAsTheFace(Class<?> c, TreeSet<String> names) {
        for (Method m : c.getDeclaredMethods()) {
            boolean hidden = Modifier.isPrivate(m.getModifiers()) && names.contains(m.getName());
            Bench.same(c.getSimpleName() + "." + m.getName() + " is private with a public one's name", "false",
                    Boolean.toString(hidden));
        }
    }
}
