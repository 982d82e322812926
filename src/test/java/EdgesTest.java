import java.util.function.Supplier;

/**
 * Every number that a call takes, at its edges: the least and the greatest that are allowed are no BEYOND; what is next
 * to them outside, and the least and the greatest int, answers the finding that is due and changes nothing but
 * status(). What the allowed ones answer is told by the other tests.
 */
public final class EdgesTest {
    private static final int BEYOND = Refusals.BEYOND;
    private static final int SIZE = Refusals.SIZE;

    private static final Check CHECK = new Check("EdgesTest");
    private static final Refusals REFUSALS = new Refusals(CHECK);

    private static int edges;

    public static void main(String[] args) {
        wheel();
        turns();
        programs();
        sixPrograms();
        runsAhead();
        shortRule();
        spots();
        sheets();
        sheetBits();
        copies();
        images();
        System.out.println("EdgesTest: " + edges + " edges");
        CHECK.end();
    }

    /** Number k of those that are given may be from least to most. */
    private static void within(String promise, String name, int[] given, int k, int least, int most) {
        below(promise, name, given, k, least, BEYOND);
        above(promise, name, given, k, most, BEYOND);
    }

    private static void below(String promise, String name, int[] given, int k, int least, int finding) {
        allowed(promise, name, with(given, k, least));
        refused(promise, name, with(given, k, least - 1), finding);
        refused(promise, name, with(given, k, Integer.MIN_VALUE), finding);
    }

    private static void above(String promise, String name, int[] given, int k, int most, int finding) {
        allowed(promise, name, with(given, k, most));
        refused(promise, name, with(given, k, most + 1), finding);
        refused(promise, name, with(given, k, Integer.MAX_VALUE), finding);
    }

    private static int[] with(int[] given, int k, int v) {
        int[] changed = given.clone();
        changed[k] = v;
        return changed;
    }

    private static void allowed(String promise, String name, int... given) {
        allowed(promise, Make::rich, name, given);
    }

    private static void allowed(String promise, Supplier<LeakCups> beginning, String name, int... given) {
        edges++;
        LeakCups x = beginning.get();
        String told = promise + " " + Calls.told(name, given);
        CHECK.holds(told + " is allowed", Calls.answer(x, name, given) != BEYOND);
        CHECK.due(told + " is no BEYOND", x.status(0), 0);
        CHECK.due(told + " is no SIZE", x.status(6), 0);
    }

    private static void refused(String promise, String name, int[] given, int finding) {
        edges++;
        REFUSALS.due(promise, Make::rich, finding, name, given);
    }

    private static void wheel() {
        for (int what = 0; what <= 3; what++) {
            within("P2", "set", new int[] {what, 50}, 1, what == 3 ? 1 : 0, 99);
        }
        within("P2", "set", new int[] {0, 50}, 0, 0, 3);
        within("P3", "kind", new int[] {0, 0}, 0, 0, 11);
        within("P3", "kind", new int[] {0, 0}, 1, 0, 6);
        within("P4", "cupOf", new int[] {0, 1}, 0, 0, 11);
        within("P4", "cupOf", new int[] {5, 1}, 1, 0, 4);
        within("P5", "fill", new int[] {0, 1}, 0, 0, 11);
        within("P5", "fill", new int[] {0, 1}, 1, 1, 999);
        within("P6", "empty", new int[] {0}, 0, 0, 11);
        within("P7", "touch", new int[] {0}, 0, -200, 200);
        within("P8", "stop", new int[] {0}, 0, 0, 1199);
        within("P9", "tick", new int[] {1}, 0, 1, 100);
        within("P10", "now", new int[] {0}, 0, 0, 7);
    }

    private static void turns() {
        int logged = Make.rich().count(4);
        CHECK.holds("some TURNS", logged > 2);
        for (int what = 0; what <= 1; what++) {
            within("P12", "turn", new int[] {0, what}, 0, 0, logged - 1);
        }
        within("P12", "turn", new int[] {logged - 1, 0}, 1, 0, 1);
        within("P13", "nextPeak", new int[] {0}, 0, 0, 600);
    }

    private static void programs() {
        within("P16", "feed", new int[] {0x20202020, 1}, 1, 1, 4);
        allowed("P16", "feed", Integer.MIN_VALUE, 4);
        allowed("P16", "feed", Integer.MAX_VALUE, 1);
        for (int what = 0; what <= 1; what++) {
            within("P19", "programOf", new int[] {0, what}, 0, 0, 1);
        }
        within("P19", "programOf", new int[] {1, 0}, 1, 0, 1);
        within("P20", "play", new int[] {0}, 0, 0, 1);
    }

    /** As many PROGRAMS as there can be. */
    private static LeakCups full() {
        LeakCups x = new LeakCups();
        for (int i = 0; i < 6; i++) {
            Make.read(x, "wait " + (1 + i));
        }
        return x;
    }

    private static void sixPrograms() {
        for (int number = 5; number <= 6; number++) {
            if (number == 5) {
                allowed("P19", EdgesTest::full, "programOf", number, 1);
                allowed("P20", EdgesTest::full, "play", number);
            } else {
                REFUSALS.due("P19", EdgesTest::full, BEYOND, "programOf", number, 1);
                REFUSALS.due("P20", EdgesTest::full, BEYOND, "play", number);
            }
        }
        REFUSALS.due("P19", LeakCups::new, BEYOND, "programOf", 0, 0);
        REFUSALS.due("P20", LeakCups::new, BEYOND, "play", 0);
    }

    private static void runsAhead() {
        within("P21", "ahead", new int[] {5, 0}, 0, 0, 400);
        within("P21", "ahead", new int[] {5, 0}, 1, 0, 3);
        within("P22", "apart", new int[] {5, 10}, 0, -200, 200);
        within("P22", "apart", new int[] {5, 10}, 1, 0, 400);
        within("P23", "parts", new int[] {5, 10}, 0, -200, 200);
        within("P23", "parts", new int[] {5, 10}, 1, 1, 1200);
        within("P24", "going", new int[] {10}, 0, 10, 400);
        within("P25", "tapFor", new int[] {1, 20}, 0, 0, 3);
        within("P25", "tapFor", new int[] {1, 20}, 1, 10, 400);
        for (int what = 0; what <= 1; what++) {
            within("P26", "bounds", new int[] {5, what}, 0, 0, 400);
        }
        within("P26", "bounds", new int[] {5, 0}, 1, 0, 1);
        within("P27", "often", new int[] {5}, 0, 1, 400);
        within("P28", "holds", new int[] {5}, 0, 1, 400);
        within("P29", "chance", new int[] {5, 5}, 0, 1, 20);
        within("P29", "chance", new int[] {5, 5}, 1, 1, 200);
    }

    private static void shortRule() {
        int[] given = {5, 6, 7, 0};
        within("P30", "brief", given, 0, -999, 999);
        within("P30", "brief", given, 1, -999, 999);
        within("P30", "brief", given, 2, 0, 200);
        within("P30", "brief", given, 3, 0, 2);
        within("P31", "flips", new int[] {5, 6, 7}, 0, -999, 999);
        within("P31", "flips", new int[] {5, 6, 7}, 1, -999, 999);
        within("P31", "flips", new int[] {5, 6, 7}, 2, 0, 200);
        allowed("P32", "seed", Integer.MIN_VALUE);
        allowed("P32", "seed", Integer.MAX_VALUE);
    }

    private static void spots() {
        within("P33", "hold", new int[] {0, 3}, 0, 0, 9);
        within("P33", "hold", new int[] {0, 3}, 1, -1, 11);
        within("P34", "as", new int[] {0, 0}, 0, 0, 9);
        within("P34", "as", new int[] {0, 0}, 1, 0, 6);
    }

    private static void sheets() {
        within("P35", "sheet", new int[] {0, 8, 4}, 0, 0, 3);
        int[] widths = {0, 8, 16, 32};
        for (int bits : widths) {
            below("P35", "sheet", new int[] {2, bits, 4}, 2, 0, SIZE);
            above("P35", "sheet", new int[] {2, bits, 4}, 2, 40, BEYOND);
        }
        within("P36", "write", new int[] {0, 1, 7}, 0, 0, 3);
        within("P36", "write", new int[] {3, 1, 7}, 1, 0, Make.RICH_NUMBERS - 1);
        within("P38", "load", new int[] {0}, 0, 0, 3);
        within("P39", "judge", new int[] {0}, 0, 0, 3);
    }

    private static void sheetBits() {
        int[] widths = {0, 8, 16, 32};
        for (int bits : widths) {
            allowed("P35", "sheet", 2, bits, 4);
            if (bits > 0) {
                refused("P35", "sheet", new int[] {2, bits - 1, 4}, BEYOND);
            }
            refused("P35", "sheet", new int[] {2, bits + 1, 4}, BEYOND);
            refused("P35", "sheet", new int[] {2, bits + 256, 4}, BEYOND);
        }
        refused("P35", "sheet", new int[] {2, -8, 4}, BEYOND);
        refused("P35", "sheet", new int[] {2, Integer.MIN_VALUE, 4}, BEYOND);
        refused("P35", "sheet", new int[] {2, Integer.MAX_VALUE, 4}, BEYOND);
    }

    private static void copies() {
        int n = Make.RICH_NUMBERS;
        int[] given = {0, 0, 1, 0, 2};
        within("P37", "copy", given, 0, 0, 3);
        within("P37", "copy", given, 1, 0, n - 2);
        within("P37", "copy", given, 2, 0, 3);
        within("P37", "copy", given, 3, 0, n - 2);
        within("P37", "copy", given, 4, 0, n);
        // of none too: one may begin where the numbers end, and no further
        within("P37", "copy", new int[] {0, 0, 1, 0, 0}, 1, 0, n);
        within("P37", "copy", new int[] {0, 0, 1, 0, 0}, 3, 0, n);
        // to itself as well
        within("P37", "copy", new int[] {2, 1, 2, 0, 3}, 1, 0, n - 3);
        within("P37", "copy", new int[] {2, 1, 2, 0, 3}, 3, 0, n - 3);
    }

    private static void images() {
        within("P43", "count", new int[] {0}, 0, 0, 8);
        within("P44", "status", new int[] {0}, 0, -1, 6);
    }
}
