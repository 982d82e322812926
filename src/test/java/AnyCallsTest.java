import java.lang.reflect.InvocationTargetException;
import java.lang.reflect.Method;
import java.lang.reflect.Modifier;
import java.util.ArrayList;
import java.util.Comparator;
import java.util.List;

/** Calls of all kinds with all sorts of arguments: none throws, and one that answers a finding changes status() alone. */
public final class AnyCallsTest {
    private static final int BEYOND = -1000001;
    private static final int SIZE = -1000007;
    private static final int ACTS = 60;
    private static final int[] WIDE = {
        0, 1, -1, 2, 3, 6, 7, 8, 9, 10, 11, 12, 16, 20, 32, 39, 40, 41, 50, 99, 100, 200, 201, -200, -201, 400, 401,
        600, 999, 1000, 1199, 1200, -999, 65536, Integer.MAX_VALUE, Integer.MIN_VALUE, Integer.MIN_VALUE + 1,
        0x77616974, 0x20353020, 0x3b746170, 0x3b000000
    };

    private static final Check CHECK = new Check("AnyCallsTest");

    public static void main(String[] args) throws IllegalAccessException {
        List<Method> calls = calls();
        CHECK.due("how many calls", calls.size(), 43);
        for (int seed = 1; seed <= 1000; seed++) {
            anyRun(calls, seed);
        }
        CHECK.end();
    }

    private static List<Method> calls() {
        List<Method> calls = new ArrayList<>();
        for (Method method : LeakCups.class.getDeclaredMethods()) {
            if (Modifier.isPublic(method.getModifiers())) {
                calls.add(method);
            }
        }
        // the order in which a class tells its methods may be any
        calls.sort(Comparator.comparing(Method::getName));
        return calls;
    }

    private static void anyRun(List<Method> calls, int seed) throws IllegalAccessException {
        Model.Draws draws = new Model.Draws(seed);
        LeakCups x = new LeakCups();
        new Model().disturb(x, seed);
        x.tick(100);
        long before = 0;
        // three calls an act, and two prints of up to 140 calls: so a run ends ahead of the 512th call
        for (int i = 0; i < ACTS; i++) {
            if (i == seed % ACTS) {
                before = Prints.of(x);
            }
            Method call = calls.get(draws.upTo(calls.size() - 1));
            Object[] given = new Object[call.getParameterCount()];
            for (int k = 0; k < given.length; k++) {
                given[k] = draws.upTo(2) == 0 ? WIDE[draws.upTo(WIDE.length - 1)] : Integer.valueOf(draws.upTo(12));
            }
            int counted = x.status(-1);
            int answer = answer(x, call, given);
            boolean found = SIZE <= answer && answer <= BEYOND && !tellsZ(call, given);
            CHECK.due(told(call, given, seed) + " counts", x.status(-1), counted + (found ? 1 : 0));
            if (found && i == seed % ACTS) {
                CHECK.due(told(call, given, seed) + " changes nothing", Prints.of(x), before);
            }
        }
    }

    private static boolean tellsZ(Method call, Object[] given) {
        return call.getName().equals("seed") || call.getName().equals("count") && given[0].equals(8);
    }

    private static int answer(LeakCups x, Method call, Object[] given) throws IllegalAccessException {
        try {
            return (Integer) call.invoke(x, given);
        } catch (InvocationTargetException thrown) {
            thrown.getCause().printStackTrace();
            CHECK.holds(call.getName() + " threw " + thrown.getCause(), false);
            return 0;
        }
    }

    private static String told(Method call, Object[] given, int seed) {
        return "run " + seed + ": " + call.getName() + java.util.Arrays.toString(given);
    }
}
