import java.lang.reflect.InvocationTargetException;
import java.lang.reflect.Method;
import java.util.Arrays;
import java.util.HashMap;
import java.util.Map;
import java.util.Set;
import java.util.stream.Collectors;

/** A call by its name and arguments, so that it can be told, and made on one object after another. */
record Call(String name, int... arguments) {
    static final String DONE = "done";
    static final String THROWS = "throws ";
    private static final Set<String> QUESTIONS = Set.of("slot", "entry", "about", "reaches", "look");
    private static final Map<Class<?>, Map<String, Method>> METHODS = new HashMap<>();

    /** A question changes nothing, so that it need not be made again with the run that it was asked in. */
    boolean isQuestion() {
        return QUESTIONS.contains(name);
    }

    /** What the call answers (DONE if it answers nothing), or THROWS and the exception's name. */
    String on(Object machine) {
        try {
            Object answer = methodOf(machine).invoke(machine, Arrays.stream(arguments).boxed().toArray());
            return answer == null ? DONE : answer.toString();
        } catch (InvocationTargetException e) {
            return THROWS + e.getCause().getClass().getSimpleName();
        } catch (IllegalAccessException e) {
            throw new AssertionError(this + " cannot be made", e);
        }
    }

    private Method methodOf(Object machine) {
        Method method = METHODS.computeIfAbsent(machine.getClass(), Call::methodsOf).get(name);
        if (method == null || method.getParameterCount() != arguments.length) {
            throw new AssertionError(this + " is no call of " + machine.getClass());
        }
        return method;
    }

    /** No two methods of the face have the same name. */
    private static Map<String, Method> methodsOf(Class<?> machine) {
        Map<String, Method> methods = new HashMap<>();
        for (Method method : machine.getDeclaredMethods()) {
            methods.put(method.getName(), method);
        }
        return methods;
    }

    @Override
    public String toString() {
        return name + Arrays.stream(arguments).mapToObj(Integer::toString).collect(Collectors.joining(", ", "(", ")"));
    }
}
