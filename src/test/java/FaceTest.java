import java.lang.reflect.Constructor;
import java.lang.reflect.Field;
import java.lang.reflect.Method;
import java.lang.reflect.Modifier;
import java.util.Set;
import java.util.TreeSet;

/** The public face, and promise 1: a new object. */
public final class FaceTest {
    private static final String[] FACE = {
        "void head(int, int, int, int) IllegalArgumentException",
        "int colour(int, int, int, int) IllegalStateException IllegalArgumentException UnsupportedOperationException",
        "int put(int, int, int, int) IllegalStateException IndexOutOfBoundsException IllegalArgumentException",
        "int tag(int, int) IllegalStateException IllegalArgumentException",
        "int extra(int) IllegalStateException IllegalArgumentException UnsupportedOperationException",
        "int byteOf(int, int) IllegalStateException IndexOutOfBoundsException IllegalArgumentException UnsupportedOperationException",
        "int reduce() IllegalStateException",
        "int write() IllegalStateException",
        "int byteAt(int) IndexOutOfBoundsException",
        "int feed(int) IllegalArgumentException UnsupportedOperationException",
        "int pass(int, int) IndexOutOfBoundsException IllegalArgumentException UnsupportedOperationException",
        "int alter(int, int, boolean) IndexOutOfBoundsException IllegalArgumentException",
        "int read()",
        "int at(int, int, int) IllegalStateException IndexOutOfBoundsException",
        "int found(int) IllegalStateException",
        "int entry(int, int) IllegalStateException IndexOutOfBoundsException IllegalArgumentException",
        "int unknown(int, int) IllegalStateException IndexOutOfBoundsException",
        "void take() IllegalStateException",
        "int told(int)",
        "void drop()",
    };

    public static void main(String[] args) {
        theFaceIsTheDocuments();
        privateMethodsHaveOtherNames();
        aNewObjectHasNoPicture();
        aNewObjectHasNothingReadWrittenOrFed();
        Check.end();
    }

    private static void theFaceIsTheDocuments() {
        Check.sentence("The public face");
        Check.due("NONE", PortableFiles.NONE, -1);
        Check.due("modifiers", Modifier.toString(PortableFiles.class.getModifiers()), "public final");
        Set<String> methods = new TreeSet<>();
        for (Method m : PortableFiles.class.getDeclaredMethods()) {
            if (!Modifier.isPrivate(m.getModifiers())) {
                methods.add(Modifier.toString(m.getModifiers()) + " " + signature(m));
            }
        }
        Set<String> due = new TreeSet<>();
        for (String s : FACE) {
            due.add("public " + s);
        }
        Check.due("methods", methods.toString(), due.toString());
        Constructor<?>[] constructors = PortableFiles.class.getDeclaredConstructors();
        Check.due("constructors", constructors.length, 1);
        Check.due("constructor", constructors[0].toString(), "public PortableFiles()");
        for (Field f : PortableFiles.class.getDeclaredFields()) {
            boolean open = !Modifier.isPrivate(f.getModifiers());
            Check.due("field " + f.getName() + " is open", open ? 1 : 0, f.getName().equals("NONE") ? 1 : 0);
        }
    }

    private static void privateMethodsHaveOtherNames() {
        Check.sentence("The public face");
        Set<String> names = new TreeSet<>();
        for (Method m : PortableFiles.class.getMethods()) {
            names.add(m.getName());
        }
        for (Class<?> inside : PortableFiles.class.getDeclaredClasses()) {
            Check.due(inside + " is static", Modifier.isStatic(inside.getModifiers()) ? 1 : 0, 1);
            for (Method m : inside.getDeclaredMethods()) {
                Check.due("a name of the face: " + m, names.contains(m.getName()) ? 1 : 0, 0);
            }
        }
    }

    private static void aNewObjectHasNoPicture() {
        Check.sentence("No picture.");
        PortableFiles x = new PortableFiles();
        Check.dueThrow("colour", Check.STATE, () -> x.colour(-1, 0, 0, 0));
        Check.dueThrow("put", Check.STATE, () -> x.put(-1, 0, 0, -1));
        Check.dueThrow("tag", Check.STATE, () -> x.tag(9, -7));
        Check.dueThrow("extra", Check.STATE, () -> x.extra(0));
        Check.dueThrow("byteOf", Check.STATE, () -> x.byteOf(-1, -1));
        Check.dueThrow("reduce", Check.STATE, () -> x.reduce());
        Check.dueThrow("write", Check.STATE, () -> x.write());
        Check.due("told(1)", x.told(1), PortableFiles.NONE);
        Check.due("told(2)", x.told(2), PortableFiles.NONE);
        Check.due("told(3)", x.told(3), 0);
        Check.due("told(6)", x.told(6), 0);
    }

    private static void aNewObjectHasNothingReadWrittenOrFed() {
        Check.sentence("nothing was READ");
        PortableFiles x = new PortableFiles();
        Check.dueThrow("at", Check.STATE, () -> x.at(-1, 0, 0));
        Check.dueThrow("found", Check.STATE, () -> x.found(99));
        Check.dueThrow("entry", Check.STATE, () -> x.entry(-1, 9));
        Check.dueThrow("unknown", Check.STATE, () -> x.unknown(-1, -2));
        Check.dueThrow("take", Check.STATE, () -> x.take());
        Check.dueThrow("byteAt", Check.INDEX, () -> x.byteAt(0));
        Check.dueThrow("pass", Check.INDEX, () -> x.pass(0, -1));
        Check.dueThrow("alter", Check.INDEX, () -> x.alter(0, -1, true));
        Check.due("told(0)", x.told(0), 0);
        Check.due("told(4)", x.told(4), 0);
        Check.due("told(5)", x.told(5), 0);
    }

    private static String signature(Method m) {
        StringBuilder text = new StringBuilder();
        text.append(m.getReturnType().getName()).append(' ').append(m.getName()).append('(');
        for (int i = 0; i < m.getParameterCount(); i++) {
            text.append(i == 0 ? "" : ", ").append(m.getParameterTypes()[i].getName());
        }
        text.append(')');
        for (Class<?> e : m.getExceptionTypes()) {
            text.append(' ').append(e.getSimpleName());
        }
        return text.toString();
    }
}
