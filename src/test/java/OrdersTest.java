import java.util.function.Supplier;

/**
 * Each finding of each act, in the order in which they are asked: where two would be due, the first of them is told.
 * Each of them is counted, and changes nothing but status(). Calls that only ask change nothing at all.
 */
public final class OrdersTest {
    private static final int BEYOND = Refusals.BEYOND;
    private static final int FULL = Refusals.FULL;
    private static final int KIND = Refusals.KIND;
    private static final int NONE = Refusals.NONE;
    private static final int MISSING = Refusals.MISSING;
    private static final int SIZE = Refusals.SIZE;

    private static final Check CHECK = new Check("OrdersTest");
    private static final Refusals REFUSALS = new Refusals(CHECK);

    public static void main(String[] args) {
        fill();
        peaksAndTurns();
        feed();
        program();
        partsNone();
        tapForNone();
        holdsNone();
        as();
        sheet();
        write();
        copy();
        loadAndJudge();
        undo();
        askingChangesNothing();
        CHECK.end();
    }

    private static void due(String promise, Supplier<LeakCups> beginning, int finding, String name, int... given) {
        REFUSALS.due(promise, beginning, finding, name, given);
    }

    private static LeakCups filled() {
        LeakCups x = Make.rich();
        x.fill(0, 999);
        x.kind(9, 5);
        x.fill(9, 499);
        x.fill(10, 201);
        x.kind(10, 4);
        return x;
    }

    private static void fill() {
        due("P5 full", OrdersTest::filled, FULL, "fill", 0, 1);
        due("P5 room for 1", OrdersTest::filled, FULL, "fill", 9, 2);
        due("P5 room for 1", OrdersTest::filled, FULL, "fill", 9, 999);
        CHECK.due("P5 room for 1", filled().fill(9, 1), 500);
        due("P5 more than its ROOM", OrdersTest::filled, FULL, "fill", 10, 1);
        due("P5 BEYOND ahead of FULL", OrdersTest::filled, BEYOND, "fill", 0, 0);
        due("P5 BEYOND ahead of FULL", OrdersTest::filled, BEYOND, "fill", 0, -5);
        due("P5 BEYOND ahead of FULL", OrdersTest::filled, BEYOND, "fill", 0, 1000);
        due("P5 BEYOND ahead of FULL", OrdersTest::filled, BEYOND, "fill", 10, Integer.MIN_VALUE);
    }

    private static LeakCups oneTurn() {
        LeakCups x = Make.plain();
        Make.swing(x, 50);
        Make.swing(x, -40);
        return x;
    }

    private static LeakCups twoTurns() {
        LeakCups x = oneTurn();
        Make.swing(x, 30);
        return x;
    }

    private static void peaksAndTurns() {
        due("P12 no TURN", LeakCups::new, BEYOND, "turn", 0, 0);
        due("P12 the second of one", OrdersTest::oneTurn, BEYOND, "turn", 1, 0);
        due("P13 no TURN", LeakCups::new, NONE, "nextPeak", 0);
        due("P13 no TURN", LeakCups::new, NONE, "nextPeak", 600);
        due("P13 one TURN", OrdersTest::oneTurn, NONE, "nextPeak", 50);
        due("P13 BEYOND ahead of NONE", LeakCups::new, BEYOND, "nextPeak", -1);
        due("P13 BEYOND ahead of NONE", OrdersTest::oneTurn, BEYOND, "nextPeak", 601);
        CHECK.due("P13 two TURNS", twoTurns().nextPeak(50), 40);
        due("P15 no TURN", LeakCups::new, NONE, "quickest");
        due("P15 one TURN", OrdersTest::oneTurn, NONE, "quickest");
        CHECK.due("P15 two TURNS", twoTurns().quickest(), 1);
    }

    private static LeakCups taped(int bytes) {
        LeakCups x = new LeakCups();
        Make.type(x, "tap 5");
        while (x.count(7) < bytes) {
            x.feed(' ', 1);
        }
        return x;
    }

    private static void feed() {
        due("P16 room for none", () -> taped(100), FULL, "feed", ' ', 1);
        due("P16 room for 1", () -> taped(99), FULL, "feed", ' ', 2);
        due("P16 room for 3", () -> taped(97), FULL, "feed", ' ', 4);
        CHECK.due("P16 room for 3", taped(97).feed(' ', 3), 100);
        due("P16 BEYOND ahead of FULL", () -> taped(100), BEYOND, "feed", ' ', 0);
        due("P16 BEYOND ahead of FULL", () -> taped(100), BEYOND, "feed", ' ', 5);
        due("P16 BEYOND ahead of FULL", () -> taped(100), BEYOND, "feed", ' ', Integer.MAX_VALUE);
    }

    /** Six PROGRAMS, and a TEXT on THE TAPE. */
    private static LeakCups programmed(String text) {
        LeakCups x = new LeakCups();
        for (int i = 0; i < 6; i++) {
            Make.read(x, "wait " + (1 + i));
        }
        Make.type(x, text);
        return x;
    }

    private static void program() {
        String[] texts = {"tap 5", "", "tap 100", ";"};
        for (String text : texts) {
            due("P18 FULL, THE TAPE '" + text + "'", () -> programmed(text), FULL, "program");
            LeakCups x = programmed(text);
            x.program();
            CHECK.due("P18 THE TAPE stays '" + text + "'", x.count(7), text.length());
        }
    }

    private static void partsNone() {
        due("P23 no TOUCH", Make::rich, NONE, "parts", 0, 1);
        due("P23 not so much", LeakCups::new, NONE, "parts", 200, 201);
        due("P23 BEYOND ahead of NONE", Make::rich, BEYOND, "parts", 0, 0);
        due("P23 BEYOND ahead of NONE", Make::rich, BEYOND, "parts", 0, 1201);
        due("P23 BEYOND ahead of NONE", LeakCups::new, BEYOND, "parts", 201, 1200);
        due("P23 BEYOND ahead of NONE", LeakCups::new, BEYOND, "parts", -201, 1200);
    }

    private static void tapForNone() {
        for (int going = 1; going <= 3; going++) {
            due("P25 it stands", LeakCups::new, NONE, "tapFor", going, 10);
            due("P25 BEYOND ahead of NONE", LeakCups::new, BEYOND, "tapFor", going, 9);
            due("P25 BEYOND ahead of NONE", LeakCups::new, BEYOND, "tapFor", going, 401);
        }
    }

    /** PACE 200, and a pull by which it would be -200 - more behind the next TICK. */
    private static LeakCups pulled(int more) {
        LeakCups x = Make.plain();
        x.touch(200);
        x.fill(9, 200 + more);
        return x;
    }

    private static void holdsNone() {
        due("P28 51 would", () -> pulled(51), NONE, "holds", 1);
        CHECK.due("P28 50 does", pulled(50).holds(1), 50);
        due("P28 BEYOND ahead of NONE", () -> pulled(51), BEYOND, "holds", 0);
        due("P28 BEYOND ahead of NONE", () -> pulled(51), BEYOND, "holds", 401);
        LeakCups back = Make.plain();
        back.touch(-200);
        back.fill(3, 251);
        CHECK.due("P28 -51 would", back.holds(1), NONE);
        back.empty(3);
        back.fill(3, 250);
        CHECK.due("P28 -50 does", back.holds(1), -50);
    }

    private static LeakCups spotted() {
        LeakCups x = Make.rich();
        x.hold(0, -1);
        x.hold(9, -1);
        x.hold(5, 3);
        return x;
    }

    /** SPOTS 0 and 9 hold nothing, SPOT 5 a CRACKED one. */
    private static void as() {
        due("P34 MISSING", OrdersTest::spotted, MISSING, "as", 0, 0);
        due("P34 MISSING", OrdersTest::spotted, MISSING, "as", 9, 6);
        due("P34 MISSING at first", LeakCups::new, MISSING, "as", 5, 0);
        due("P34 BEYOND ahead of MISSING", OrdersTest::spotted, BEYOND, "as", 0, -1);
        due("P34 BEYOND ahead of MISSING", OrdersTest::spotted, BEYOND, "as", 0, 7);
        due("P34 no such SPOT", LeakCups::new, BEYOND, "as", 10, 0);
        int[] others = {1, 3, 4, 5, 6};
        for (int kind : others) {
            due("P34 CRACKED is none", OrdersTest::spotted, KIND, "as", 5, kind);
        }
        due("P34 BEYOND ahead of KIND", OrdersTest::spotted, BEYOND, "as", 5, 7);
    }

    private static void sheet() {
        int[] widths = {0, 8, 16, 32};
        for (int bits : widths) {
            due("P35 BEYOND ahead of SIZE", Make::rich, BEYOND, "sheet", 4, bits, -1);
            due("P35 BEYOND ahead of SIZE", Make::rich, BEYOND, "sheet", -1, bits, -1);
            due("P35 SIZE", LeakCups::new, SIZE, "sheet", 0, bits, -1);
            due("P35 BEYOND", LeakCups::new, BEYOND, "sheet", 0, bits, 41);
        }
        due("P35 BEYOND ahead of SIZE", Make::rich, BEYOND, "sheet", 0, 7, -1);
        due("P35 BEYOND ahead of SIZE", LeakCups::new, BEYOND, "sheet", 0, 1, Integer.MIN_VALUE);
    }

    private static void write() {
        due("P36 MISSING at first", LeakCups::new, MISSING, "write", 0, 0, 1);
        due("P36 MISSING ahead of BEYOND", LeakCups::new, MISSING, "write", 3, -1, 1);
        due("P36 MISSING ahead of BEYOND", OrdersTest::withoutSheet2, MISSING, "write", 2, 40, 1);
        due("P36 BEYOND ahead of MISSING", LeakCups::new, BEYOND, "write", 4, 0, 1);
        due("P36 no numbers", OrdersTest::withoutNumbers, BEYOND, "write", 2, 0, 1);
    }

    private static LeakCups withoutSheet2() {
        LeakCups x = Make.rich();
        x.sheet(2, 0, 5);
        return x;
    }

    private static LeakCups withoutNumbers() {
        LeakCups x = Make.rich();
        x.sheet(2, 16, 0);
        return x;
    }

    private static LeakCups ofOtherBits() {
        LeakCups x = Make.rich();
        x.sheet(1, 8, 3);
        x.sheet(2, 32, 3);
        x.sheet(3, 0, 3);
        return x;
    }

    private static void copy() {
        Supplier<LeakCups> some = OrdersTest::ofOtherBits;
        due("P37 MISSING, from", some, MISSING, "copy", 3, 0, 0, 0, 1);
        due("P37 MISSING, to", some, MISSING, "copy", 0, 0, 3, 0, 1);
        due("P37 MISSING, both", some, MISSING, "copy", 3, 0, 3, 0, 0);
        due("P37 BEYOND ahead of MISSING", some, BEYOND, "copy", 3, 0, 4, 0, 1);
        due("P37 BEYOND ahead of MISSING", some, BEYOND, "copy", -1, 0, 3, 0, 1);
        due("P37 KIND", some, KIND, "copy", 0, 0, 1, 0, 1);
        due("P37 KIND", some, KIND, "copy", 1, 0, 2, 0, 1);
        due("P37 KIND of none", some, KIND, "copy", 2, 0, 0, 0, 0);
        due("P37 MISSING ahead of KIND and BEYOND", some, MISSING, "copy", 3, -1, 0, 99, -1);
        due("P37 KIND ahead of BEYOND", some, KIND, "copy", 0, -1, 1, 0, 1);
        due("P37 KIND ahead of BEYOND", some, KIND, "copy", 0, 0, 1, 41, 1);
        due("P37 KIND ahead of BEYOND", some, KIND, "copy", 0, 0, 1, 0, -1);
        due("P37 no numbers", OrdersTest::withoutNumbers, BEYOND, "copy", 0, 0, 2, 0, 1);
        due("P37 no numbers", OrdersTest::withoutNumbers, BEYOND, "copy", 2, 0, 0, 0, 1);
        CHECK.due("P37 none of none", withoutNumbers().copy(2, 0, 2, 0, 0), 0);
    }

    private static void loadAndJudge() {
        String[] names = {"load", "judge"};
        for (String name : names) {
            due("P38, P39 MISSING at first", LeakCups::new, MISSING, name, 3);
            due("P38, P39 MISSING again", OrdersTest::withoutSheet2, MISSING, name, 2);
            due("P38, P39 no such sheet", LeakCups::new, BEYOND, name, 4);
        }
    }

    private static void undo() {
        due("P41 nothing is kept", LeakCups::new, NONE, "undo");
        due("P41 torn", OrdersTest::torn, NONE, "undo");
    }

    private static LeakCups torn() {
        LeakCups x = Make.rich();
        x.tear();
        return x;
    }

    /** RUNS AHEAD (chance() but for Z, which is put back here), THE READER, and what only tells. */
    private static void askingChangesNothing() {
        Object[][] asks = {
            {"cupOf", 2, 4}, {"now", 3}, {"torque"}, {"turn", 1, 1}, {"nextPeak", 30}, {"rising"}, {"quickest"},
            {"programOf", 1, 1}, {"ahead", 400, 3}, {"apart", -200, 400}, {"parts", 200, 1}, {"parts", 200, 1200},
            {"going", 400}, {"tapFor", 0, 40}, {"tapFor", 1, 40}, {"bounds", 400, 1}, {"often", 400}, {"holds", 400},
            {"brief", -999, 999, 200, 2}, {"flips", 999, -999, 200}, {"chance", 20, 200}, {"judge", 1}, {"as", 3, 0},
            {"count", 8}, {"status", -1}
        };
        for (Object[] ask : asks) {
            int[] given = new int[ask.length - 1];
            for (int i = 0; i < given.length; i++) {
                given[i] = (Integer) ask[1 + i];
            }
            LeakCups x = Make.rich();
            int z = x.count(8);
            Calls.answer(x, (String) ask[0], given);
            x.seed(z);
            CHECK.due(Calls.told((String) ask[0], given) + " changes nothing", Prints.whole(x), Prints.whole(Make.rich()));
        }
    }
}
