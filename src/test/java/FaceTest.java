import java.lang.reflect.Constructor;
import java.lang.reflect.Field;
import java.lang.reflect.Method;
import java.lang.reflect.Modifier;
import java.util.ArrayList;
import java.util.Arrays;
import java.util.List;
import java.util.TreeSet;

/** The public face is that of the document, and nothing else of the class can be seen. */
public final class FaceTest {
    private static final Check CHECK = new Check("FaceTest");
    private static final String I = "IndexOutOfBoundsException";
    private static final String A = "IllegalArgumentException";
    private static final String S = "IllegalStateException";

    private static final String[] FACE = {
        "int addPlace() " + S,
        "int addSpring(int,int,int) " + I + " " + A + " " + S,
        "int lead(int,int) " + I + " " + S,
        "boolean turnDelta(int) " + I,
        "int setRule(int) " + A,
        "int build(int) " + I + " " + S,
        "int pass(int) " + A,
        "int year()",
        "int places()",
        "int leadsTo(int) " + I,
        "boolean hasSpring(int) " + I,
        "int springOf(int) " + I,
        "int waterAt(int) " + I,
        "int lengthAt(int) " + I,
        "int mouthOf(int) " + I,
        "boolean isAbove(int,int) " + I,
        "int placesAbove(int) " + I,
        "int meeting(int,int) " + I,
        "int nameAt(int) " + I,
        "int arguing(int) " + I,
        "boolean isArgued(int) " + I,
        "int placesNamed(int) " + I,
        "int greatestName()",
        "int nameless()",
        "int bridges()",
        "int placeOf(int) " + I,
        "int keeps(int) " + I,
        "boolean isInsulted(int) " + I,
        "int insults()",
        "int insultsAt(int) " + I,
        "int nameIn(int,int) " + I + " " + A,
        "int yearsUntilRenamed(int) " + I,
        "int weightiestSpring()",
        "int renamedByDelta(int) " + I,
        "int renamedByRule()",
        "double meanMouth()",
        "long digest()",
    };

    private FaceTest() {
    }

    public static void main(String[] args) {
        Class<?> face = RiverNames.class;
        CHECK.due("public and final", face.getModifiers(), Modifier.PUBLIC | Modifier.FINAL);
        checkConstructors(face);
        checkMethods(face);
        for (Field field : face.getDeclaredFields()) {
            int kind = field.getModifiers();
            CHECK.due(field.getName() + " is private", Modifier.isPrivate(kind), true);
            boolean sound = !Modifier.isStatic(kind) || Modifier.isFinal(kind);
            CHECK.due(field.getName() + " is final if static", sound, true);
        }
        for (Class<?> inner : face.getDeclaredClasses()) {
            int kind = inner.getModifiers();
            boolean hidden = !Modifier.isPublic(kind) && !Modifier.isProtected(kind);
            CHECK.due(inner.getName() + " is hidden and static",
                    hidden && Modifier.isStatic(kind), true);
            checkNamesInside(face, inner);
        }
        CHECK.end();
    }

    private static void checkConstructors(Class<?> face) {
        Constructor<?>[] made = face.getDeclaredConstructors();
        CHECK.due("constructors", made.length, 1);
        CHECK.due("constructor's parameters", made[0].getParameterCount(), 0);
        CHECK.due("constructor is public", Modifier.isPublic(made[0].getModifiers()), true);
    }

    private static void checkMethods(Class<?> face) {
        List<String> seen = new ArrayList<>();
        TreeSet<String> publicNames = new TreeSet<>();
        for (Method method : face.getDeclaredMethods()) {
            if (Modifier.isPublic(method.getModifiers())) {
                seen.add(told(method));
                publicNames.add(method.getName());
                CHECK.due(method.getName() + " is of an object",
                        Modifier.isStatic(method.getModifiers()), false);
            }
        }
        for (Method method : face.getDeclaredMethods()) {
            if (!Modifier.isPublic(method.getModifiers())) {
                CHECK.due(method.getName() + " is private",
                        Modifier.isPrivate(method.getModifiers()), true);
                CHECK.due(method.getName() + " bears no name of the face",
                        publicNames.contains(method.getName()), false);
            }
        }
        List<String> due = Arrays.asList(FACE);
        for (String method : due) {
            CHECK.due("there is " + method, seen.contains(method), true);
        }
        for (String method : seen) {
            CHECK.due("the document has " + method, due.contains(method), true);
        }
    }

    private static void checkNamesInside(Class<?> face, Class<?> inner) {
        for (Method method : inner.getDeclaredMethods()) {
            boolean taken = Arrays.stream(face.getMethods())
                    .anyMatch(shown -> shown.getName().equals(method.getName()));
            CHECK.due(inner.getName() + "." + method.getName() + " bears no name of the face",
                    taken, false);
        }
    }

    private static String told(Method method) {
        StringBuilder text = new StringBuilder();
        text.append(method.getReturnType().getSimpleName()).append(' ').append(method.getName());
        text.append('(');
        Class<?>[] given = method.getParameterTypes();
        for (int i = 0; i < given.length; i++) {
            text.append(i == 0 ? "" : ",").append(given[i].getSimpleName());
        }
        text.append(')');
        for (Class<?> thrown : method.getExceptionTypes()) {
            text.append(' ').append(thrown.getSimpleName());
        }
        return text.toString();
    }
}
