import java.util.function.Supplier;

/**
 * A call that answers a finding: it is counted, once and as that finding, and changes nothing but status(). To see
 * that, an object that got the call is compared with one that begins alike and didn't get it.
 */
final class Refusals {
    static final int BEYOND = -1000001;
    static final int FULL = -1000002;
    static final int KIND = -1000003;
    static final int NONE = -1000004;
    static final int MISSING = -1000006;
    static final int SIZE = -1000007;

    private final Check check;

    Refusals(Check check) {
        this.check = check;
    }

    void due(String promise, Supplier<LeakCups> beginning, int finding, String name, int... given) {
        String told = promise + " " + Calls.told(name, given);
        LeakCups x = beginning.get();
        LeakCups other = beginning.get();
        check.due(told, Calls.answer(x, name, given), finding);
        for (int which = -1; which <= 6; which++) {
            boolean isCounted = which == -1 || which == BEYOND - finding;
            check.due(told + ", then status(" + which + ")", x.status(which), other.status(which) + (isCounted ? 1 : 0));
        }
        check.due(told + " changes nothing", Prints.whole(x), Prints.whole(other));
    }
}
