import java.lang.reflect.Constructor;
import java.lang.reflect.Field;
import java.lang.reflect.Method;
import java.lang.reflect.Modifier;
import java.util.Arrays;
import java.util.Set;
import java.util.TreeSet;

/** The public face: the members that the document names, with their exceptions, and no other. */
public final class FaceTest {
    private static final String N = "NoSuchElementException";
    private static final String B = "IndexOutOfBoundsException";
    private static final String U = "UnsupportedOperationException";
    private static final String S = "IllegalStateException";
    private static final String A = "IllegalArgumentException";

    public static void main(String[] args) {
        theClass();
        theMethods();
        Check.end();
    }

    private static void theClass() {
        int modifiers = GrantMachine.class.getModifiers();
        Check.yes("the class is public", Modifier.isPublic(modifiers));
        Check.yes("the class is final", Modifier.isFinal(modifiers));
        Check.same("NONE", GrantMachine.NONE, -1);
        Constructor<?>[] constructors = GrantMachine.class.getDeclaredConstructors();
        Check.same("constructors", constructors.length, 1);
        Check.same("the constructor's parameters", constructors[0].getParameterCount(), 0);
        Check.yes("the constructor is public", Modifier.isPublic(constructors[0].getModifiers()));
        for (Field field : GrantMachine.class.getDeclaredFields()) {
            boolean isNone = field.getName().equals("NONE");
            Check.yes("the field " + field.getName() + " is private, but for NONE",
                    isNone != Modifier.isPrivate(field.getModifiers()));
        }
    }

    private static void theMethods() {
        Set<String> due = new TreeSet<>(Arrays.asList(
                face("void", "region", 3, B, A),
                face("void", "make", 2, N, A),
                face("void", "grant", 6, N, B, A),
                face("void", "steps", 2, N, A),
                face("void", "load", 6, N, B, A),
                face("void", "seal", 3, N, B),
                face("int", "read", 3, N, B, U, S, A),
                face("void", "write", 4, N, B, U, S, A),
                face("void", "refine", 6, N, B, U, S, A),
                face("void", "move", 3, N, B, U, S),
                face("void", "drop", 2, N, B, U),
                face("int", "enter", 2, N, B, U, S),
                face("int", "back", 1, N, U, S),
                face("int", "slot", 3, N, B, A),
                face("int", "entry", 3, N, B, A),
                face("int", "about", 2, N, A),
                face("boolean", "reaches", 2, N, B),
                face("int", "look", 1, B)));
        Set<String> got = new TreeSet<>();
        for (Method method : GrantMachine.class.getDeclaredMethods()) {
            if (!Modifier.isPrivate(method.getModifiers())) {
                got.add(faceOf(method));
            }
        }
        Check.yes("the methods are\n" + due + "\nbut they were\n" + got, due.equals(got));
    }

    private static String face(String answer, String name, int parameters, String... thrown) {
        return answer + " " + name + "/" + parameters + " public " + new TreeSet<>(Arrays.asList(thrown));
    }

    private static String faceOf(Method method) {
        Set<String> thrown = new TreeSet<>();
        for (Class<?> exception : method.getExceptionTypes()) {
            thrown.add(exception.getSimpleName());
        }
        String access = Modifier.isPublic(method.getModifiers()) ? " public " : " not public ";
        for (Class<?> parameter : method.getParameterTypes()) {
            Check.yes("the parameters of " + method.getName() + " are ints", parameter == int.class);
        }
        return method.getReturnType() + " " + method.getName() + "/" + method.getParameterCount() + access + thrown;
    }
}
