import java.lang.reflect.Method;
import java.util.ArrayList;
import java.util.List;

/**
 * Calls of all kinds with all sorts of arguments: none throws; each that answers a finding is counted; and an object
 * that got only the others is the same in the end, for a finding changes status() alone.
 */
public final class AnyCallsTest {
    private static final int BEYOND = -1000001;
    private static final int SIZE = -1000007;
    /** With what begins a run and the prints that end it, less than the 512 calls that an object has. */
    private static final int ACTS = 40;
    private static final int[] WIDE = {
        0, 1, -1, 2, 3, 6, 7, 8, 9, 10, 11, 12, 16, 20, 32, 39, 40, 41, 50, 99, 100, 200, 201, -200, -201, 400, 401,
        600, 999, 1000, 1199, 1200, -999, 65536, Integer.MAX_VALUE, Integer.MIN_VALUE, Integer.MIN_VALUE + 1,
        0x77616974, 0x20353020, 0x3b746170, 0x3b000000
    };

    private static final Check CHECK = new Check("AnyCallsTest");

    public static void main(String[] args) {
        List<Method> calls = Calls.all();
        CHECK.due("how many calls", calls.size(), 43);
        for (int seed = 1; seed <= 2000; seed++) {
            anyRun(calls, seed);
        }
        CHECK.end();
    }

    private static LeakCups beginning(int seed) {
        if (seed % 2 == 0) {
            return Make.rich();
        }
        LeakCups x = new LeakCups();
        new Model().disturb(x, seed);
        x.tick(100);
        return x;
    }

    private static void anyRun(List<Method> calls, int seed) {
        Model.Draws draws = new Model.Draws(seed);
        LeakCups x = beginning(seed);
        LeakCups other = beginning(seed);
        int counted = 0;
        List<String> told = new ArrayList<>();
        for (int i = 0; i < ACTS; i++) {
            Method call = calls.get(draws.upTo(calls.size() - 1));
            int[] given = new int[call.getParameterCount()];
            for (int k = 0; k < given.length; k++) {
                given[k] = draws.upTo(3) == 0 ? WIDE[draws.upTo(WIDE.length - 1)] : draws.upTo(12) - 1;
            }
            int answer = Calls.answer(x, call, given);
            String name = call.getName();
            told.add(Calls.told(name, given) + " " + answer);
            if (SIZE <= answer && answer <= BEYOND && !tellsZ(name, given)) {
                counted++;
            } else if (!name.equals("status")) {
                CHECK.due("run " + seed + " without findings: " + told, Calls.answer(other, call, given), answer);
            }
        }
        CHECK.due("run " + seed + " counts: " + told, x.status(-1), counted);
        CHECK.due("run " + seed + " changes but status(): " + told, Prints.whole(x), Prints.whole(other));
    }

    private static boolean tellsZ(String name, int[] given) {
        return name.equals("seed") || name.equals("count") && given[0] == 8;
    }
}
