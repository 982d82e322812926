import java.lang.reflect.InvocationTargetException;
import java.lang.reflect.Method;
import java.lang.reflect.Modifier;
import java.util.ArrayList;
import java.util.Arrays;
import java.util.Comparator;
import java.util.List;

/** Calls by their names, so that a table or a draw can tell which. */
final class Calls {
    private static final List<Method> ALL = all();

    private Calls() {
    }

    static List<Method> all() {
        List<Method> calls = new ArrayList<>();
        for (Method method : LeakCups.class.getDeclaredMethods()) {
            if (Modifier.isPublic(method.getModifiers())) {
                calls.add(method);
            }
        }
        // the order in which a class tells its methods may be any
        calls.sort(Comparator.comparing(Method::getName));
        return calls;
    }

    static int answer(LeakCups x, String name, int... given) {
        for (Method call : ALL) {
            if (call.getName().equals(name)) {
                return answer(x, call, given);
            }
        }
        throw new IllegalStateException("no call " + name);
    }

    static int answer(LeakCups x, Method call, int... given) {
        Object[] boxed = Arrays.stream(given).boxed().toArray();
        try {
            return (Integer) call.invoke(x, boxed);
        } catch (InvocationTargetException | IllegalAccessException thrown) {
            throw new IllegalStateException(told(call.getName(), given), thrown);
        }
    }

    static String told(String name, int... given) {
        String list = Arrays.toString(given);
        return name + "(" + list.substring(1, list.length() - 1) + ")";
    }
}
