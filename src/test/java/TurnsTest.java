/** Promises 12 to 15: THE LOG of TURNS. */
public final class TurnsTest {
    private static final int BEYOND = -1000001;
    private static final int NONE = -1000004;

    private static final Check CHECK = new Check("TurnsTest");

    public static void main(String[] args) {
        emptyLog();
        turn();
        firstTickTurns();
        touchIsNoTurn();
        stillBetween();
        fullLog();
        nextPeak();
        rising();
        quickest();
        compareWithModel();
        CHECK.end();
    }

    private static void due(String what, long got, long want) {
        CHECK.due(what, got, want);
    }

    private static void swing(LeakCups x, int pace) {
        due("a swing", Make.swing(x, pace), pace);
    }

    /** So many TICKS at PACE 0. */
    private static void rest(LeakCups x, int n) {
        x.stop(0);
        due("a rest", x.tick(n), 0);
    }

    private static LeakCups swung(int... paces) {
        LeakCups x = Make.plain();
        for (int pace : paces) {
            swing(x, pace);
        }
        return x;
    }

    private static void emptyLog() {
        LeakCups x = Make.plain();
        due("P12 none", x.turn(0, 0), BEYOND);
        due("P13 none", x.nextPeak(5), NONE);
        due("P14 none", x.rising(), 0);
        due("P15 none", x.quickest(), NONE);
        due("P13 BEYOND ahead of NONE", x.nextPeak(601), BEYOND);
        due("no first way: no TURN", swung(5, 7, 9).count(5), 0);
    }

    private static void turn() {
        LeakCups x = swung(5, -8, -3, 9, 10, 4, -1, 600);
        int[] ticks = {2, 4, 7, 8};
        int[] peaks = {5, 8, 10, 1};
        due("P12 how many", x.count(4), 4);
        for (int i = 0; i < 4; i++) {
            due("P12 TICK of " + i, x.turn(i, 0), ticks[i]);
            due("P12 PEAK of " + i, x.turn(i, 1), peaks[i]);
        }
        due("P12 no such turn", x.turn(4, 0), BEYOND);
        due("P12 no such turn", x.turn(-1, 1), BEYOND);
        due("P12 no such what", x.turn(0, 2), BEYOND);
        due("P12 no such what", x.turn(0, -1), BEYOND);
        due("P12 findings", x.status(0), 4);
    }

    private static void firstTickTurns() {
        LeakCups x = Make.plain();
        x.touch(50);
        swing(x, -3);
        due("P12 a TURN in the first TICK", x.turn(0, 0), 1);
        due("P12 with no TICK ahead of it", x.turn(0, 1), 0);
    }

    private static void touchIsNoTurn() {
        LeakCups x = Make.plain();
        swing(x, 5);
        x.touch(-200);
        due("a TOUCH is no TURN", x.count(5), 0);
        x.tick(1);
        due("nor is the TICK behind it", x.count(5), 0);
        x.touch(-100);
        x.stop(0);
        swing(x, 6);
        due("but the swing back", x.turn(0, 0), 3);
        due("its PEAK is of TICKS, not of TOUCHES", x.turn(0, 1), 195);
    }

    private static void stillBetween() {
        LeakCups x = Make.plain();
        swing(x, 5);
        rest(x, 10);
        due("PACE 0 is no TURN", x.count(5), 0);
        due("WAY stays", x.now(2), 1);
        swing(x, -4);
        due("TURN behind the rest", x.turn(0, 0), 12);
        due("its PEAK", x.turn(0, 1), 5);
        swing(x, 3);
        due("PEAK from the TURN's own TICK on", x.turn(1, 1), 4);
    }

    private static void fullLog() {
        LeakCups x = Make.plain();
        for (int i = 0; i <= 43; i++) {
            swing(x, i % 2 == 0 ? 100 + i : -100 - i);
        }
        due("all TURNS", x.count(5), 43);
        due("THE LOG", x.count(4), 40);
        due("P12 the last in THE LOG", x.turn(39, 0), 41);
        due("P12 its PEAK", x.turn(39, 1), 139);
        due("P12 not in THE LOG", x.turn(40, 0), BEYOND);
        due("P13 its next is none", x.nextPeak(139), 139);
        due("P14 all are rising", x.rising(), 39);
        due("P15 each next TICK", x.quickest(), 1);
    }

    private static void nextPeak() {
        LeakCups one = swung(5, -8);
        due("P13 one TURN", one.nextPeak(5), NONE);
        due("P13 NONE is counted", one.status(3), 1);
        due("P13 two TURNS", swung(5, -8, 1).nextPeak(600), 8);
        // PEAKS 50, 80, 40, 80, 10, 60
        LeakCups x = swung(50, -80, 40, -80, 10, -60, 1);
        due("P13 just one", x.nextPeak(50), 80);
        due("P13 of several the first", x.nextPeak(80), 40);
        due("P13 two as near: the first", x.nextPeak(45), 80);
        due("P13 nearest below", x.nextPeak(26), 80);
        due("P13 nearest", x.nextPeak(24), 60);
        due("P13 the last has no next", x.nextPeak(61), 80);
        due("P13 the least v", x.nextPeak(0), 60);
        due("P13 the greatest v", x.nextPeak(600), 40);
        due("P13 below", x.nextPeak(-1), BEYOND);
        due("P13 above", x.nextPeak(601), BEYOND);
    }

    private static void rising() {
        due("P14 one", swung(5, -8).rising(), 0);
        due("P14 two", swung(5, -8, 1).rising(), 1);
        due("P14 as great is not greater", swung(8, -8, 8, -8).rising(), 0);
        due("P14 some", swung(50, -80, 40, -80, 10, -60, 1).rising(), 3);
        due("P14 falling", swung(9, -8, 7, -6, 5).rising(), 0);
    }

    private static void quickest() {
        LeakCups x = Make.plain();
        swing(x, 5);
        swing(x, -5);
        due("P15 one", x.quickest(), NONE);
        rest(x, 6);
        swing(x, 5);
        due("P15 TICKS 2 and 9", x.quickest(), 7);
        rest(x, 2);
        swing(x, -5);
        due("P15 TICKS 9 and 12", x.quickest(), 3);
        rest(x, 20);
        swing(x, 5);
        due("P15 the nearest ones stay", x.quickest(), 3);
        due("P15 NONE is counted", x.status(3), 1);
    }

    /** Much water, small leaks: wheels that turn often. */
    private static void compareWithModel() {
        int turns = 0;
        for (int seed = 101; seed <= 140; seed++) {
            LeakCups x = new LeakCups();
            Model model = new Model();
            model.disturb(x, seed);
            model.rub = seed % 10;
            x.set(2, model.rub);
            model.tap = 40 + seed % 60;
            x.set(0, model.tap);
            for (int t = 0; t < 600; t++) {
                model.tick();
            }
            for (int round = 0; round < 6; round++) {
                x.tick(100);
            }
            model.compare(CHECK, x, "P12 model " + seed);
            turns += model.turnTicks.size();
        }
        CHECK.holds("the models turn (" + turns + ")", turns > 400);
    }
}
