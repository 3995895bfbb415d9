import java.lang.reflect.Constructor;
import java.lang.reflect.Field;
import java.lang.reflect.Method;
import java.lang.reflect.Modifier;
import java.util.HashSet;
import java.util.Set;
import java.util.TreeSet;

/** The public face is the document's, and nothing else can be seen. */
public final class FaceTest {
    private static final String[] FACE = {
        "public static final int NanoSigns.NONE",
        "public NanoSigns()",
        "public int NanoSigns.turn(long,long,long,long,long,long) throws java.lang.IllegalArgumentException",
        "public int NanoSigns.segment(long,long,long,long) throws java.lang.IllegalArgumentException",
        "public int NanoSigns.arc(long,long,long,int,int) throws java.lang.IllegalArgumentException",
        "public long NanoSigns.distance(int,int,int,int) throws java.lang.IndexOutOfBoundsException,"
            + "java.lang.IllegalArgumentException",
        "public int NanoSigns.compare(long,long,long,long) throws java.lang.IllegalArgumentException",
        "public int NanoSigns.cross(int,int) throws java.lang.IndexOutOfBoundsException,"
            + "java.lang.IllegalArgumentException",
        "public long NanoSigns.at(int,int,int) throws java.lang.IllegalStateException,"
            + "java.lang.IndexOutOfBoundsException",
        "public boolean NanoSigns.on(int,long,long) throws java.lang.IndexOutOfBoundsException,"
            + "java.lang.IllegalArgumentException",
        "public long NanoSigns.over(long,long,int) throws java.lang.ArithmeticException,"
            + "java.lang.IndexOutOfBoundsException",
        "public long NanoSigns.root(long,int) throws java.lang.IndexOutOfBoundsException,"
            + "java.lang.IllegalArgumentException",
        "public boolean NanoSigns.corner(long,long) throws java.lang.IllegalArgumentException",
        "public long NanoSigns.area(int) throws java.lang.IndexOutOfBoundsException",
        "public void NanoSigns.clear()",
    };

    private FaceTest() {
    }

    public static void main(String[] args) {
        Set<String> want = new TreeSet<>();
        for (String line : FACE) {
            want.add(line);
        }
        Set<String> got = new TreeSet<>();
        Set<String> publicNames = new HashSet<>();
        for (Field f : NanoSigns.class.getDeclaredFields()) {
            addIfSeen(got, f.getModifiers(), f.toGenericString());
            Due.is(f + " is final or of the object", true,
                () -> !Modifier.isStatic(f.getModifiers()) || Modifier.isFinal(f.getModifiers()));
        }
        for (Constructor<?> c : NanoSigns.class.getDeclaredConstructors()) {
            addIfSeen(got, c.getModifiers(), c.toGenericString());
        }
        for (Method m : NanoSigns.class.getDeclaredMethods()) {
            addIfSeen(got, m.getModifiers(), m.toGenericString());
            if (Modifier.isPublic(m.getModifiers())) {
                publicNames.add(m.getName());
            }
        }
        Due.same("the face", want.toString(), got.toString());
        Due.is("the class is final", true, () -> Modifier.isFinal(NanoSigns.class.getModifiers()));
        lookAtPrivateNames(NanoSigns.class, publicNames);
        for (Class<?> inside : NanoSigns.class.getDeclaredClasses()) {
            Due.is(inside + " is static", true, () -> Modifier.isStatic(inside.getModifiers()));
            lookAtPrivateNames(inside, publicNames);
        }
        Due.end();
    }

    private static void addIfSeen(Set<String> seen, int modifiers, String text) {
        if (!Modifier.isPrivate(modifiers)) {
            seen.add(text);
        }
    }

    private static void lookAtPrivateNames(Class<?> type, Set<String> publicNames) {
        for (Method m : type.getDeclaredMethods()) {
            boolean ofTheFace = type == NanoSigns.class && Modifier.isPublic(m.getModifiers());
            Due.is(m + " bears a name of its own", true, () -> ofTheFace || !publicNames.contains(m.getName()));
        }
    }
}
