import java.lang.reflect.Constructor;
import java.lang.reflect.Field;
import java.lang.reflect.Member;
import java.lang.reflect.Method;
import java.lang.reflect.Modifier;
import java.util.ArrayList;
import java.util.Arrays;
import java.util.Collections;
import java.util.List;

/** The public face: the class, its constructor, its methods and what each may throw; and nothing else. */
public final class FaceTest {
    private static final String BAD = "IllegalArgumentException";
    private static final String MISSING = "NoSuchElementException";
    private static final String REFUSED = "IllegalStateException";
    private static final String FULL = "IndexOutOfBoundsException";

    private static final String[] FACE = {
        method("void nodes int", BAD),
        method("int feed int int int int int", FULL),
        method("int end int", BAD),
        method("void when int int int", BAD, FULL),
        method("void put int int", BAD, FULL),
        method("void erase int", BAD, FULL),
        method("void lease int int boolean", BAD, FULL),
        method("int propose int", REFUSED, MISSING, FULL),
        method("void forget"),
        method("void rise int", REFUSED, MISSING, FULL),
        method("void beat int", REFUSED, MISSING),
        method("int sync int", MISSING),
        method("void crash int int", BAD, MISSING),
        method("void start int", MISSING),
        method("void deliver int boolean", MISSING, FULL),
        method("void lose int", MISSING),
        method("int snapshot int", REFUSED, MISSING),
        method("int read int", BAD, REFUSED, MISSING, FULL),
        method("int answer int int int", BAD, MISSING),
        method("int pair int int int", BAD, REFUSED, MISSING),
        method("int range int int int int int", BAD, REFUSED, MISSING),
        method("int event int int int int int", BAD, REFUSED, MISSING),
        method("void compact int int", REFUSED, MISSING),
        method("int outcome int int int", BAD, MISSING),
        method("int message int int", BAD, MISSING),
        method("int told int int", BAD, MISSING),
        method("int count int"),
    };

    public static void main(String[] args) {
        Due.part("The public face");
        theClass();
        theMethods();
        nothingElseIsSeen();
        Due.part("All memory is the class's own rows");
        nothingIsShared(CouncilStore.class);
        for (Class<?> inside : CouncilStore.class.getDeclaredClasses()) {
            nothingIsShared(inside);
        }
        Due.exit();
    }

    private static String method(String head, String... thrown) {
        return head + " throws " + Arrays.toString(thrown);
    }

    private static void theClass() {
        Class<?> face = CouncilStore.class;
        Due.due("public", Modifier.isPublic(face.getModifiers()) ? 1 : 0, 1);
        Due.due("final", Modifier.isFinal(face.getModifiers()) ? 1 : 0, 1);
        Due.due("constructors", face.getDeclaredConstructors().length, 1);
        Constructor<?> made = face.getDeclaredConstructors()[0];
        Due.due("its parameters", made.getParameterCount(), 0);
        Due.due("public", Modifier.isPublic(made.getModifiers()) ? 1 : 0, 1);
        Due.due("what it throws", made.getExceptionTypes().length, 0);
    }

    private static void theMethods() {
        List<String> found = new ArrayList<>();
        for (Method m : CouncilStore.class.getDeclaredMethods()) {
            if (Modifier.isPublic(m.getModifiers())) {
                Due.due(m.getName() + " is static", Modifier.isStatic(m.getModifiers()) ? 1 : 0, 0);
                found.add(told(m));
            }
        }
        List<String> due = new ArrayList<>(Arrays.asList(FACE));
        Collections.sort(due);
        Collections.sort(found);
        Due.dueSame("the methods", String.join("\n", found), String.join("\n", due));
    }

    private static String told(Method m) {
        StringBuilder head = new StringBuilder(m.getReturnType().getName() + " " + m.getName());
        for (Class<?> type : m.getParameterTypes()) {
            head.append(' ').append(type.getName());
        }
        String[] thrown = new String[m.getExceptionTypes().length];
        for (int i = 0; i < thrown.length; i++) {
            thrown[i] = m.getExceptionTypes()[i].getSimpleName();
        }
        return method(head.toString(), thrown);
    }

    private static void nothingElseIsSeen() {
        for (Field f : CouncilStore.class.getDeclaredFields()) {
            Due.due(f.getName() + " is private", isHidden(f) ? 1 : 0, 1);
        }
        for (Method m : CouncilStore.class.getDeclaredMethods()) {
            boolean seen = Modifier.isPublic(m.getModifiers());
            Due.due(m.getName() + " is private or of the face", seen || isHidden(m) ? 1 : 0, 1);
        }
        for (Class<?> inside : CouncilStore.class.getDeclaredClasses()) {
            int seen = inside.getModifiers() & (Modifier.PUBLIC | Modifier.PROTECTED);
            Due.due(inside.getName() + " is seen", seen, 0);
            Due.due(inside.getName() + " is static", Modifier.isStatic(inside.getModifiers()) ? 1 : 0, 1);
        }
    }

    /** What is static is for all objects, so it's a number that never changes. */
    private static void nothingIsShared(Class<?> of) {
        for (Field f : of.getDeclaredFields()) {
            if (Modifier.isStatic(f.getModifiers()) && !f.isSynthetic()) {
                boolean constant = Modifier.isFinal(f.getModifiers()) && f.getType().isPrimitive();
                Due.due(of.getName() + "." + f.getName() + " is a constant", constant ? 1 : 0, 1);
            }
        }
    }

    private static boolean isHidden(Member m) {
        return Modifier.isPrivate(m.getModifiers()) || m.isSynthetic();
    }
}
