import java.lang.reflect.Constructor;
import java.lang.reflect.Field;
import java.lang.reflect.Method;
import java.lang.reflect.Modifier;
import java.util.Set;
import java.util.TreeSet;

/** The public face: the document's constants, constructor and methods, and no other member to be seen. */
public final class FaceTest {
    private static final String[] METHODS = {
        "int type(long int) IllegalArgumentException IllegalStateException",
        "void poke(int int) IndexOutOfBoundsException IllegalArgumentException",
        "int size()",
        "int byteAt(int) IndexOutOfBoundsException",
        "void clear()",
        "int read()",
        "int write() IllegalStateException",
        "int methods()",
        "int check(int) IllegalStateException IllegalArgumentException",
        "int run(int int int int) IllegalStateException IllegalArgumentException",
        "int result()",
        "int steps()",
    };
    private static final String[] CONSTANTS = {
        "NONE -1", "DONE 0", "STUCK 1", "DIVISION 2", "INDEX 3", "NULL 4", "SIZE 5", "TIRED 6",
    };

    private FaceTest() {
    }

    public static void main(String[] args) throws IllegalAccessException {
        Class<?> face = VerifiedCode.class;
        TestKit.due("public and final", face.getModifiers() & (Modifier.PUBLIC | Modifier.FINAL),
            Modifier.PUBLIC | Modifier.FINAL);
        TestKit.due("methods", seenMethods(face).toString(), new TreeSet<>(Set.of(METHODS)).toString());
        TestKit.due("constants", seenFields(face).toString(), new TreeSet<>(Set.of(CONSTANTS)).toString());
        Constructor<?>[] constructors = face.getDeclaredConstructors();
        TestKit.due("constructors", constructors.length, 1);
        TestKit.due("its parameters", constructors[0].getParameterCount(), 0);
        TestKit.due("it is public", constructors[0].getModifiers(), Modifier.PUBLIC);
        for (Class<?> inside : face.getDeclaredClasses()) {
            TestKit.due(inside.getSimpleName() + " is static and not public",
                inside.getModifiers() & (Modifier.STATIC | Modifier.PUBLIC | Modifier.PROTECTED), Modifier.STATIC);
            noneNamedAsPublic(inside, face);
        }
        noneNamedAsPublic(face, face);
        TestKit.end("FaceTest");
    }

    /** LANGUAGE.md, rule 1: no private method bears the name of a public one; here none of the classes inside does. */
    private static void noneNamedAsPublic(Class<?> holder, Class<?> face) {
        Set<String> publicNames = new TreeSet<>();
        for (Method m : face.getMethods()) {
            if (m.getDeclaringClass() == face) {
                publicNames.add(m.getName());
            }
        }
        Set<String> others = new TreeSet<>();
        for (Method m : holder.getDeclaredMethods()) {
            if (!Modifier.isPublic(m.getModifiers())) {
                others.add(m.getName());
            }
        }
        others.retainAll(publicNames);
        TestKit.due("names of public methods that " + holder.getSimpleName() + " uses", others.toString(), "[]");
    }

    private static Set<String> seenMethods(Class<?> face) {
        Set<String> seen = new TreeSet<>();
        for (Method m : face.getDeclaredMethods()) {
            if (Modifier.isPrivate(m.getModifiers()) || m.isSynthetic()) {
                continue;
            }
            StringBuilder text = new StringBuilder();
            text.append(m.getReturnType().getSimpleName()).append(' ').append(m.getName()).append('(');
            String gap = "";
            for (Class<?> p : m.getParameterTypes()) {
                text.append(gap).append(p.getSimpleName());
                gap = " ";
            }
            text.append(')');
            for (Class<?> e : m.getExceptionTypes()) {
                text.append(' ').append(e.getSimpleName());
            }
            seen.add(text.toString());
        }
        return seen;
    }

    private static Set<String> seenFields(Class<?> face) throws IllegalAccessException {
        Set<String> seen = new TreeSet<>();
        int constant = Modifier.PUBLIC | Modifier.STATIC | Modifier.FINAL;
        for (Field f : face.getDeclaredFields()) {
            if (!Modifier.isPrivate(f.getModifiers())) {
                seen.add(f.getModifiers() == constant ? f.getName() + " " + f.getInt(null) : f.toString());
            }
        }
        return seen;
    }
}
