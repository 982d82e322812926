/** Promises 21 to 32: runs ahead, chances, the short rule. */
public final class AheadTest {
    private static final int BEYOND = -1000001;
    private static final int NONE = -1000004;

    private static final Check CHECK = new Check("AheadTest");

    public static void main(String[] args) {
        edges();
        for (int seed = 201; seed <= 216; seed++) {
            likeTheWheelItself(seed);
            apartLikeTheWheel(seed);
            goingLikeTheWheel(seed);
            holdsLikeTheWheel(seed);
            chanceLikeTheWheel(seed);
        }
        still();
        stillFromTheLatterHalf();
        evenSettlingTurning();
        behindTurns();
        tapFor();
        bounds();
        often();
        parts();
        holds();
        draws();
        brief();
        flips();
        seed();
        CHECK.end();
    }

    private static void due(String what, long got, long want) {
        CHECK.due(what, got, want);
    }

    /** A wheel that turns now and then. */
    private static LeakCups some(int seed) {
        LeakCups x = new LeakCups();
        new Model().disturb(x, seed);
        x.set(0, 40 + seed % 60);
        x.set(2, seed % 10);
        return x;
    }

    private static Model someModel(int seed) {
        Model model = new Model();
        model.disturb(new LeakCups(), seed);
        model.tap = 40 + seed % 60;
        model.rub = seed % 10;
        return model;
    }

    private static void edges() {
        LeakCups x = new LeakCups();
        int found = 0;
        int[][] wrongAhead = {{-1, 0}, {401, 0}, {5, -1}, {5, 4}};
        for (int[] args : wrongAhead) {
            due("P21 edges", x.ahead(args[0], args[1]), BEYOND);
        }
        int[][] wrongApart = {{-201, 5}, {201, 5}, {1, -1}, {1, 401}};
        for (int[] args : wrongApart) {
            due("P22 edges", x.apart(args[0], args[1]), BEYOND);
        }
        int[][] wrongParts = {{-201, 5}, {201, 5}, {1, 0}, {1, 1201}};
        for (int[] args : wrongParts) {
            due("P23 edges", x.parts(args[0], args[1]), BEYOND);
        }
        int[][] wrongTapFor = {{-1, 50}, {4, 50}, {0, 9}, {0, 401}};
        for (int[] args : wrongTapFor) {
            due("P25 edges", x.tapFor(args[0], args[1]), BEYOND);
        }
        int[][] wrongBounds = {{-1, 0}, {401, 0}, {5, -1}, {5, 2}};
        for (int[] args : wrongBounds) {
            due("P26 edges", x.bounds(args[0], args[1]), BEYOND);
        }
        int[][] wrongChance = {{0, 5}, {21, 5}, {5, 0}, {5, 201}};
        for (int[] args : wrongChance) {
            due("P29 edges", x.chance(args[0], args[1]), BEYOND);
        }
        int[][] wrongBrief = {{1000, 0, 0, 0}, {-1000, 0, 0, 0}, {0, 1000, 0, 0}, {0, -1000, 0, 0}, {0, 0, -1, 0}, {0, 0, 201, 0}};
        for (int[] args : wrongBrief) {
            due("P30 edges", x.brief(args[0], args[1], args[2], args[3]), BEYOND);
            due("P31 edges", x.flips(args[0], args[1], args[2]), BEYOND);
            found += 2;
        }
        due("P30 no such what", x.brief(0, 0, 0, 3), BEYOND);
        due("P30 no such what", x.brief(0, 0, 0, -1), BEYOND);
        due("P24 edges", x.going(9), BEYOND);
        due("P24 edges", x.going(401), BEYOND);
        due("P27 edges", x.often(0), BEYOND);
        due("P27 edges", x.often(401), BEYOND);
        due("P28 edges", x.holds(0), BEYOND);
        due("P28 edges", x.holds(401), BEYOND);
        due("all are counted", x.status(0), found + 6 * 4 + 2 + 6);
        due("P29 no draw with a finding", x.count(8), 1);
    }

    /** ahead, bounds, often and judge tell what a model does afterwards, and change nothing. */
    private static void likeTheWheelItself(int seed) {
        LeakCups x = some(seed);
        Model model = someModel(seed);
        int least = model.pace;
        int greatest = model.pace;
        int above = 0;
        for (int n = 0; n <= 400; n++) {
            if (n % 25 == 0) {
                String where = " of " + n + ", seed " + seed;
                due("P21 PACE" + where, x.ahead(n, 0), model.pace);
                due("P21 ANGLE" + where, x.ahead(n, 1), model.angle);
                due("P21 WATER" + where, x.ahead(n, 2), model.waterOfAll());
                due("P21 TURNS" + where, x.ahead(n, 3), model.turnTicks.size());
                due("P26 least" + where, x.bounds(n, 0), least);
                due("P26 greatest" + where, x.bounds(n, 1), greatest);
                due("P27" + where, x.often(n), n == 0 ? BEYOND : above);
            }
            model.tick();
            least = Math.min(least, model.pace);
            greatest = Math.max(greatest, model.pace);
            above += model.pace > 0 ? 1 : 0;
        }
        Model untouched = someModel(seed);
        untouched.compare(CHECK, x, "P21 nothing changes, seed " + seed);
    }

    private static void apartLikeTheWheel(int seed) {
        LeakCups x = some(seed);
        int by = seed % 2 == 0 ? seed - 201 : 195 - seed;
        Model one = someModel(seed);
        Model other = someModel(seed);
        other.touch(by);
        int[] first = {NONE, NONE, NONE};
        int[] most = {1, 40, 300};
        for (int n = 0; n <= 400; n++) {
            int difference = Math.abs(one.pace - other.pace);
            if (n % 20 == 0) {
                due("P22 seed " + seed + " behind " + n, x.apart(by, n), difference);
            }
            for (int i = 0; i < most.length; i++) {
                if (first[i] == NONE && difference >= most[i]) {
                    first[i] = n;
                }
            }
            one.tick();
            other.tick();
        }
        for (int i = 0; i < most.length; i++) {
            due("P23 seed " + seed + " by " + most[i], x.parts(by, most[i]), first[i]);
        }
        someModel(seed).compare(CHECK, x, "P22 nothing changes, seed " + seed);
    }

    private static int goingOf(Model model, int n) {
        for (int t = 0; t < n; t++) {
            model.tick();
        }
        boolean still = true;
        for (int t = n / 2 + 1; t <= n; t++) {
            still &= model.paces.get(t - 1) == 0;
        }
        boolean late = false;
        for (int tick : model.turnTicks) {
            late |= tick > n / 2;
        }
        if (still) {
            return 0;
        }
        return model.turnTicks.isEmpty() ? 1 : late ? 3 : 2;
    }

    private static void goingLikeTheWheel(int seed) {
        LeakCups x = some(seed);
        for (int n = 10; n <= 400; n += 13) {
            due("P24 seed " + seed + " of " + n, x.going(n), goingOf(someModel(seed), n));
        }
        int n = seed % 2 == 0 ? 60 : 101;
        int[] first = {NONE, NONE, NONE, NONE};
        for (int tap = 99; tap >= 0; tap--) {
            Model model = someModel(seed);
            model.tap = tap;
            first[goingOf(model, n)] = tap;
        }
        for (int going = 0; going < 4; going++) {
            due("P25 seed " + seed + " to " + going, x.tapFor(going, n), first[going]);
        }
        someModel(seed).compare(CHECK, x, "P25 nothing changes, seed " + seed);
        due("P25 TAP stays", x.count(0), 40 + seed % 60);
    }

    private static boolean turns(int seed, int by, int n) {
        Model model = someModel(seed);
        model.touch(by);
        for (int t = 0; t < n; t++) {
            model.tick();
        }
        return !model.turnTicks.isEmpty();
    }

    private static void holdsLikeTheWheel(int seed) {
        LeakCups x = some(seed);
        for (int n = 1; n <= 400; n += 33) {
            int want = NONE;
            for (int step = 100; step >= 0; step--) {
                int by = step % 2 == 1 ? (step + 1) / 2 : -step / 2;
                want = turns(seed, by, n) ? want : by;
            }
            due("P28 seed " + seed + " of " + n, x.holds(n), want);
        }
        someModel(seed).compare(CHECK, x, "P28 nothing changes, seed " + seed);
    }

    private static void chanceLikeTheWheel(int seed) {
        LeakCups x = some(seed);
        int z = seed * 1000003;
        x.seed(z);
        for (int t = 1; t <= 200; t += 19) {
            int n = 1 + t % 20;
            int above = 0;
            for (int i = 0; i < n; i++) {
                z = z * 1103515245 + 12345;
                Model model = someModel(seed);
                model.touch((z >>> 8) % 21 - 10);
                for (int tick = 0; tick < t; tick++) {
                    model.tick();
                }
                above += model.pace > 0 ? 1 : 0;
            }
            due("P29 seed " + seed + ", " + n + " times " + t, x.chance(n, t), above);
            due("P29 Z goes on", x.count(8), z);
        }
        someModel(seed).compare(CHECK, x, "P29 nothing else changes, seed " + seed);
    }

    private static void still() {
        LeakCups x = Make.plain();
        due("P24 nothing moves", x.going(10), 0);
        x.set(2, 50);
        // PACE 16, 8, 4, 2, 1, and at 1 the rub is 0: it goes on
        x.touch(16);
        due("P24 EVEN", x.going(20), 1);
        x.set(2, 99);
        x.stop(0);
        x.touch(2);
        // 2 less 1, then 1 less 0
        due("P24 a PACE of 1 is not still", x.going(10), 1);
    }

    /** A PACE that goes down to 0 without a TURN, and stays there: by a TOUCH against what leaks from CUP 9. */
    private static LeakCups stoppingAbove0(int leak, int by) {
        LeakCups x = Make.plain();
        x.set(1, leak);
        x.set(3, 20);
        x.fill(9, 300);
        x.touch(by);
        return x;
    }

    private static void stillFromTheLatterHalf() {
        LeakCups behind5 = stoppingAbove0(33, 26);
        CHECK.holds("the last PACE is behind TICK 5", behind5.ahead(5, 0) > 0 && behind5.ahead(6, 0) == 0);
        due("P24 0 from TICK 6 of 10 on", behind5.going(10), 0);
        due("P24 0 from TICK 6 of 11 on", behind5.going(11), 0);
        LeakCups behind6 = stoppingAbove0(30, 29);
        CHECK.holds("the last PACE is behind TICK 6", behind6.ahead(6, 0) > 0 && behind6.ahead(7, 0) == 0);
        due("P24 not 0 in TICK 6 of 10", behind6.going(10), 1);
        due("P24 not 0 in TICK 6 of 11", behind6.going(11), 1);
        due("P24 0 from TICK 7 of 12 on", behind6.going(12), 0);
        due("P24 0 from TICK 7 of 400 on", behind6.going(400), 0);
    }

    /**
     * CUP 9 full of water that pulls against a TOUCH: PACE goes down by the same each TICK, and is below 0 from a
     * TICK on that the TOUCH tells.
     */
    private static LeakCups turningAt(int tick) {
        LeakCups x = Make.plain();
        x.set(3, 99);
        x.fill(9, 99);
        // torque about -9900 by 9900: 1 less each TICK, while CUP 9 is at PLACE 9
        x.touch(tick - 1);
        return x;
    }

    private static void evenSettlingTurning() {
        due("P24 EVEN: no TURN", turningAt(12).going(10), 1);
        due("P24 TURN in TICK 5 of 10: first half", turningAt(5).going(10), 2);
        due("P24 TURN in TICK 6 of 10: latter half", turningAt(6).going(10), 3);
        due("P24 TURN in TICK 5 of 11: first half", turningAt(5).going(11), 2);
        due("P24 TURN in TICK 6 of 11: latter half", turningAt(6).going(11), 3);
        due("P24 TURN in TICK 6 of 12: first half", turningAt(6).going(12), 2);
        due("a TURN", stopping().ahead(1, 3), 1);
        due("PACE behind it", stopping().ahead(1, 0), -1);
        due("P24 STILL, whatever turned", stopping().going(10), 0);
        due("P26 the least", stopping().bounds(10, 0), -1);
    }

    /**
     * PACE 1, then -1 (a TURN), 0, 0 ..: CUP 7 pulls more than CUP 4, tips at PLACE 6 in TICK 2, and from TICK 3 on
     * CUP 4 has too little.
     */
    private static LeakCups stopping() {
        LeakCups x = Make.plain();
        x.set(1, 50);
        x.set(3, 10);
        x.kind(7, 5);
        x.fill(7, 90);
        x.fill(4, 50);
        x.touch(1);
        return x;
    }

    /** TURNS that came ahead of now are none of those to come. */
    private static void behindTurns() {
        LeakCups x = Make.plain();
        x.touch(1);
        x.fill(9, 3);
        x.tick(1);
        due("a TURN ahead of now", x.count(5), 1);
        x.empty(9);
        x.stop(0);
        x.touch(4);
        due("P21 no TURN to come", x.ahead(10, 3), 0);
        due("P24 no TURN to come", x.going(10), 1);
        due("P25 no TURN to come", x.tapFor(1, 10), 0);
        due("P28 no TURN to come", x.holds(10), 0);
        x.set(3, 99);
        x.fill(9, 99);
        // PACE 3, 2, 1, 0, -1: a TURN in TICK 5
        due("P21 none yet", x.ahead(4, 3), 0);
        due("P21 one", x.ahead(5, 3), 1);
        due("P24 SETTLING", x.going(10), 2);
        due("P28 held for a TICK more", x.holds(5), 1);
    }

    private static void tapFor() {
        int[][] only99 = {{1, 2}, {2, 157}, {3, 2251}};
        for (int[] row : only99) {
            LeakCups tapped = new LeakCups();
            new Model().disturb(tapped, row[1]);
            due("P25 99 alone goes " + row[0], tapped.tapFor(row[0], 20), 99);
            for (int tap = 0; tap <= 99; tap++) {
                tapped.set(0, tap);
                CHECK.holds("P25 not " + tap, (tapped.going(20) == row[0]) == (tap == 99));
            }
        }
        LeakCups by100 = new LeakCups();
        new Model().disturb(by100, 69);
        // with a TAP of 100, if there were one, it would be TURNING
        due("P25 99 is the greatest TAP", by100.tapFor(3, 20), NONE);
        tapForAtRest();
    }

    private static void tapForAtRest() {
        LeakCups x = Make.plain();
        x.set(1, 5);
        x.stop(300);
        // CUP 9 is at PLACE 0, lever 0, the wheel is at rest: water from above doesn't move it
        due("P25 the least TAP", x.tapFor(0, 10), 0);
        due("P25 none", x.tapFor(1, 10), NONE);
        x.set(0, 7);
        x.stop(1);
        x.touch(99);
        due("P25 EVEN without a tap", x.tapFor(1, 10), 0);
        due("P25 NONE is counted", x.status(3), 1);
    }

    private static void bounds() {
        LeakCups x = turningAt(6);
        due("P26 PACE now", x.bounds(0, 0), 5);
        due("P26 PACE now", x.bounds(0, 1), 5);
        due("P26 the least", x.bounds(7, 0), -2);
        due("P26 the greatest is now", x.bounds(7, 1), 5);
    }

    private static void often() {
        LeakCups x = turningAt(6);
        due("P27 of 1", x.often(1), 1);
        due("P27 0 is not above 0", x.often(10), 4);
        due("P27 below", new LeakCups().often(400), 0);
    }

    private static void parts() {
        LeakCups x = Make.plain();
        due("P23 at once", x.parts(-7, 7), 0);
        due("P23 never", x.parts(7, 8), NONE);
        due("P23 no TOUCH", x.parts(0, 1), NONE);
        due("P22 at once", x.apart(-7, 0), 7);
        LeakCups late = new LeakCups();
        new Model().disturb(late, 20);
        int most = late.apart(50, 400);
        due("P23 behind the last TICK", late.parts(50, most), 400);
        due("P23 not so soon", late.parts(50, most + 1), NONE);
        for (int i = 0; i < 3; i++) {
            x.touch(199);
        }
        due("P22 held", x.apart(200, 0), 3);
        due("P22 below", x.apart(-200, 0), 200);
        asFarAsCanBe();
    }

    /** CUPS 0, 1 and 11 stand above: the wheel falls to one side, and with the TOUCH to the other. */
    private static void asFarAsCanBe() {
        LeakCups x = Make.plain();
        x.fill(0, 999);
        x.fill(1, 500);
        x.fill(11, 500);
        x.touch(-100);
        due("P22 behind 0", x.apart(200, 0), 200);
        due("P22 behind 1", x.apart(200, 1), 200);
        due("P22 behind 2", x.apart(200, 2), 1200);
        due("P23 by the most that can be", x.parts(200, 1200), 2);
        due("P23 by as much as at once", x.parts(200, 200), 0);
        due("P23 by one more", x.parts(200, 201), 2);
        due("P26 the least that can be", x.bounds(2, 0), -600);
        x.touch(200);
        due("P26 the greatest that can be", x.bounds(2, 1), 600);
        due("P23 by a TOUCH down", x.parts(-200, 1200), 2);
    }

    private static void holds() {
        due("P28 no TOUCH", new LeakCups().holds(400), 0);
        // it turns in TICK 3 if not by a TOUCH of some TICKS more
        due("P28 by so much more", turningAt(3).holds(5), 3);
        due("P28 up to the TICK", turningAt(3).holds(2), 0);
        LeakCups down = Make.plain();
        down.touch(1);
        down.fill(9, 30);
        // -30 a TICK: to stay above 0 takes 30 (PACE 0 is no TURN), to be below it at once -2
        due("P28 by a TOUCH the other way", down.holds(1), -2);
        LeakCups up = Make.plain();
        up.touch(-1);
        up.fill(3, 30);
        due("P28 by 2 ahead of -2", up.holds(1), 2);
        // with PACE 600 even 50 less leaves it as it goes
        LeakCups fast = Make.plain();
        fast.touch(200);
        fast.fill(9, 999);
        due("P28 none", fast.holds(1), NONE);
        due("P28 NONE is counted", fast.status(3), 1);
        fast.empty(9);
        fast.fill(9, 250);
        due("P28 the greatest: PACE 0 is no TURN", fast.holds(1), 50);
        fast.fill(9, 1);
        due("P28 one more is too much", fast.holds(1), NONE);
        LeakCups back = Make.plain();
        back.touch(-200);
        back.fill(3, 250);
        due("P28 the least", back.holds(1), -50);
    }

    private static void draws() {
        // nothing pulls: PACE is the TOUCH's. Z 1 becomes 1103527590, gives 4310654: by 21 the rest is 5, a TOUCH by -5
        LeakCups x = Make.plain();
        x.touch(5);
        due("P29 one draw", x.chance(1, 1), 0);
        x.seed(1);
        x.touch(1);
        due("P29 one draw", x.chance(1, 1), 1);
        x.touch(-6);
        due("P29 Z", x.count(8), 1103527590);
        due("P29 PACE stays", x.now(0), 0);
        due("P29 WAY stays", x.now(2), 1);
        x.touch(11);
        due("P29 by -10 at the least", x.chance(20, 200), 20);
        x.touch(-22);
        due("P29 by 10 at most", x.chance(20, 200), 0);
        // of the least and of the greatest TOUCH one from a Z above 0 and one from a Z below 0: Z >>> 8 has no sign
        touchedBy(-10, -170, false);
        touchedBy(-10, -169, true);
        touchedBy(10, -194, false);
        touchedBy(10, -168, true);
    }

    /** From this Z the first draw is a TOUCH by so much. */
    private static void touchedBy(int by, int z, boolean isBelow0) {
        LeakCups x = Make.plain();
        String told = "P29 Z " + z + ", by " + by;
        x.touch(-by);
        x.seed(z);
        due(told + ": PACE 0", x.chance(1, 1), 0);
        CHECK.holds(told + ": Z is below 0 then", x.count(8) < 0 == isBelow0);
        x.touch(1);
        x.seed(z);
        due(told + ": PACE 1", x.chance(1, 1), 1);
    }

    private static void brief() {
        LeakCups x = new LeakCups();
        due("P30 none", x.brief(-999, 999, 0, 0), -999);
        due("P30 none", x.brief(-999, 999, 0, 1), 999);
        due("P30 none", x.brief(-999, 999, 0, 2), 0);
        due("P30 x: 999", x.brief(999, 999, 1, 0), 999);
        due("P30 y: 999 and 26973 by 100", x.brief(999, 999, 1, 1), 1268);
        due("P30 z: 9980 by 100", x.brief(999, 999, 1, 2), 99);
        // all at once, of 999, 1268, 99: x 26, y (26982 less 1268) by 100: 257, z (12667 less 264) by 100: 124
        due("P30 twice", x.brief(999, 999, 2, 0), 1025);
        due("P30 twice", x.brief(999, 999, 2, 1), 1525);
        due("P30 twice", x.brief(999, 999, 2, 2), 223);
        due("P30 towards 0", x.brief(-5, 4, 1, 0), -5);
        due("P30 towards 0: 4 and -144 by 100", x.brief(-5, 4, 1, 1), 3);
        due("P30 towards 0", x.brief(-99, 99, 1, 2), 0);
        for (int from = -999; from <= 999; from += 111) {
            long[] v = {from, 500 - from / 2, 0};
            for (int n = 0; n <= 200; n++) {
                if (n % 50 == 49) {
                    for (int what = 0; what < 3; what++) {
                        due("P30 from " + from + ", " + n, x.brief(from, 500 - from / 2, n, what), v[what]);
                    }
                }
                v = ruled(v);
            }
        }
        due("P30 Z is not z", x.count(8), 1);
    }

    private static long[] ruled(long[] v) {
        long[] w = new long[3];
        w[0] = v[0] + (v[1] - v[0]) / 10;
        w[1] = v[1] + ((v[0] * (2800 - v[2])) / 100 - v[1]) / 100;
        w[2] = v[2] + ((v[0] * v[1]) / 100 - (8 * v[2]) / 3) / 100;
        for (int i = 0; i < 3; i++) {
            w[i] = Math.max(-99999, Math.min(99999, w[i]));
        }
        return w;
    }

    private static void flips() {
        LeakCups x = new LeakCups();
        due("P31 none", x.flips(5, 5, 0), 0);
        due("P31 at 0", x.flips(0, 0, 200), 0);
        // x 9, then 9 and -1008 by 10: -91
        due("P31 once", x.flips(9, -999, 1), 1);
        // x -1, then 0 (16 by 10 more), then 1
        due("P31 at 0 it counts as it was", x.flips(-1, 15, 1), 0);
        due("P31 over 0", x.flips(-1, 15, 2), 1);
        due("P31 from 0: no change", x.flips(0, 999, 20), 0);
        for (int from = -999; from <= 999; from += 74) {
            due("P31 from " + from, x.flips(from, -from, 200), flipsOf(from, -from, 200));
            due("P31 from " + from, x.flips(from % 7, 40, 200), flipsOf(from % 7, 40, 200));
        }
        flipsOver0();
    }

    /** Small ones, of which many stand at 0 for a while and go on as they came, or to the other side. */
    private static void flipsOver0() {
        for (int from = -20; from <= 20; from++) {
            LeakCups x = new LeakCups();
            for (int y = -90; y <= 90; y += 5) {
                due("P31 from " + from + ", " + y, x.flips(from, y, 200), flipsOf(from, y, 200));
                due("P31 from " + from + ", " + y, x.flips(from, y, 9), flipsOf(from, y, 9));
            }
        }
    }

    private static int flipsOf(long x, long y, int n) {
        long[] v = {x, y, 0};
        String signs = "";
        for (int i = 0; i <= n; i++) {
            signs += v[0] > 0 ? "+" : v[0] < 0 ? "-" : "";
            v = ruled(v);
        }
        int found = 0;
        for (int i = 1; i < signs.length(); i++) {
            found += signs.charAt(i) == signs.charAt(i - 1) ? 0 : 1;
        }
        return found;
    }

    private static void seed() {
        LeakCups x = new LeakCups();
        due("P32 at first", x.seed(-1000001), 1);
        due("P32 any int", x.seed(Integer.MIN_VALUE), -1000001);
        due("P32 any int", x.seed(7), Integer.MIN_VALUE);
        due("P32 Z", x.count(8), 7);
        x.seed(-1000004);
        due("P32 Z", x.count(8), -1000004);
        due("P32 no finding", x.status(-1), 0);
    }
}
