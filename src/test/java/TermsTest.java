/** The boundary cases that DOC.md names in its section Terms and that no other test tells by themselves. */
public final class TermsTest {
    private static final int BEYOND = -1000001;
    private static final int SIZE = -1000007;

    private static final int SEALED = 1;
    private static final int CRACKED = 2;
    private static final int DEEP = 3;
    private static final int SMALL = 4;
    private static final int TIPPING = 5;
    private static final int ROPED = 6;
    private static final int[] ROOMS = {999, 999, 999, 999, 200, 500, 200};

    private static final Check CHECK = new Check("TermsTest");

    public static void main(String[] args) {
        zIsNoFinding();
        leaksAtTheEdges();
        tipsAtPlace6Alone();
        kindsKeepWater();
        tapAndRoom();
        ropedAndRoom();
        ropedByNumbers();
        quotients();
        paceIsHeld();
        angleGoesRound();
        wayAtFirst();
        logIsFull();
        peaks();
        asLongAsItIsUsed();
        CHECK.end();
    }

    private static void due(String what, long got, long want) {
        CHECK.due(what, got, want);
    }

    private static void zIsNoFinding() {
        LeakCups x = new LeakCups();
        int was = 1;
        for (int v = BEYOND + 1; v >= SIZE - 1; v--) {
            due("Z was", x.seed(v), was);
            due("Z", x.count(8), v);
            was = v;
        }
        due("Z is no finding", x.status(-1), 0);
    }

    private static LeakCups one(int kind, int water, int leak) {
        LeakCups x = Make.plain();
        x.set(1, leak);
        if (water > 0) {
            x.fill(2, water);
        }
        x.kind(2, kind);
        return x;
    }

    /** What LEAKS is told by cupOf(), is gone behind a TICK, and is LOST. */
    private static void leaks(int kind, int water, int leak, int want) {
        LeakCups x = one(kind, water, leak);
        String told = "kind " + kind + ", WATER " + water + ", LEAK " + leak;
        due(told + " leaks", x.cupOf(2, 4), want);
        x.kind(3, SEALED);
        x.fill(3, 999);
        x.tick(1);
        due(told + " has", x.cupOf(2, 1), water - want);
        due(told + " LOST", x.now(5), want);
    }

    private static void leaksAtTheEdges() {
        for (int kind = 0; kind <= 6; kind++) {
            leaks(kind, 0, 99, 0);
            leaks(kind, 999, 0, 0);
        }
        leaks(0, 1, 99, 0);
        leaks(0, 99, 1, 0);
        leaks(0, 100, 1, 1);
        leaks(0, 999, 99, 989);
        leaks(SEALED, 999, 99, 0);
        int[] twice = {CRACKED, SMALL, ROPED};
        for (int kind : twice) {
            leaks(kind, 1, 99, 0);
            leaks(kind, 100, 49, 98);
            leaks(kind, 100, 50, 100);
            leaks(kind, 100, 51, 100);
            leaks(kind, 2, 50, 2);
            leaks(kind, 3, 50, 2);
            leaks(kind, 3, 99, 3);
            leaks(kind, 200, 99, 200);
        }
        int[] above100 = {DEEP, TIPPING};
        for (int kind : above100) {
            leaks(kind, 1, 99, 0);
            leaks(kind, 100, 99, 0);
            leaks(kind, 101, 99, 0);
            leaks(kind, 102, 99, 1);
            leaks(kind, 200, 1, 1);
            leaks(kind, 199, 1, 0);
            leaks(kind, 500, 99, 396);
        }
    }

    private static void tipsAtPlace6Alone() {
        LeakCups x = one(TIPPING, 150, 10);
        for (int angle = 0; angle < 1200; angle += 50) {
            x.stop(angle);
            due("TIPPING at PLACE " + x.cupOf(2, 2), x.cupOf(2, 4), x.cupOf(2, 2) == 6 ? 150 : 5);
        }
        x.stop(399);
        due("TIPPING ahead of PLACE 6", x.cupOf(2, 4), 5);
        x.stop(499);
        due("TIPPING at the end of PLACE 6", x.cupOf(2, 4), 150);
        x.stop(500);
        due("TIPPING behind PLACE 6", x.cupOf(2, 4), 5);
        x.kind(2, DEEP);
        x.stop(400);
        due("DEEP at PLACE 6", x.cupOf(2, 4), 5);
    }

    private static void kindsKeepWater() {
        for (int kind = 0; kind <= 6; kind++) {
            LeakCups x = one(0, 999, 0);
            x.kind(2, kind);
            due("keeps its WATER as " + kind, x.cupOf(2, 1), 999);
            due("ROOM of " + kind, x.cupOf(2, 3), ROOMS[kind]);
            x.tick(1);
            due("keeps it in a TICK, but for what goes to the next", x.now(3), 999);
            due("keeps it in a TICK", x.cupOf(2, 1), kind == ROPED ? 998 : 999);
        }
    }

    /** CUP 0, at PLACE 0, of a kind and with so much less than its ROOM, below a TAP. */
    private static void tapped(int kind, int less, int tap) {
        LeakCups x = Make.plain();
        x.set(0, tap);
        x.fill(0, ROOMS[kind] - less);
        x.kind(0, kind);
        x.fill(1, 999);
        x.tick(1);
        String told = "TAP " + tap + ", room for " + less + ", kind " + kind;
        due(told + ": WATER", x.cupOf(0, 1), ROOMS[kind] - less + Math.min(less, tap));
        due(told + ": SPILT", x.now(4), tap - Math.min(less, tap));
        due(told + ": LOST", x.now(5), 0);
    }

    private static void tapAndRoom() {
        // TIPPING isn't at PLACE 6 here, and LEAK is 0
        for (int kind = 0; kind <= 6; kind++) {
            tapped(kind, 0, 0);
            tapped(kind, 0, 1);
            tapped(kind, 0, 99);
            tapped(kind, 1, 99);
            tapped(kind, 98, 99);
            tapped(kind, 99, 99);
            tapped(kind, 100, 99);
        }
        LeakCups over = Make.plain();
        over.set(0, 7);
        over.fill(0, 201);
        over.kind(0, SMALL);
        over.tick(1);
        due("more than its ROOM: nothing comes, nothing goes", over.cupOf(0, 1), 201);
        due("more than its ROOM: all is SPILT", over.now(4), 7);
    }

    /** CUP 4 is ROPED and has so much; CUP 5 is of a kind and has so much: what CUP 5 has behind a TICK. */
    private static void roped(int has, int nextKind, int nextHas, int want) {
        LeakCups x = Make.plain();
        if (has > 0) {
            x.fill(4, has);
        }
        if (nextHas > 0) {
            x.fill(5, nextHas);
        }
        x.kind(4, ROPED);
        x.kind(5, nextKind);
        x.tick(1);
        String told = "ROPED of " + has + ", then " + nextHas + " of kind " + nextKind;
        due(told, x.cupOf(5, 1), want);
        due(told + ", itself", x.cupOf(4, 1), has + nextHas - want);
        due(told + ", LOST", x.now(5), 0);
        due(told + ", SPILT", x.now(4), 0);
    }

    private static void ropedAndRoom() {
        roped(0, 0, 0, 0);
        roped(1, 0, 0, 1);
        roped(1, 0, 1, 1);
        roped(2, 0, 1, 2);
        roped(5, 0, 6, 6);
        roped(999, 0, 998, 999);
        roped(300, SMALL, 199, 200);
        roped(300, SMALL, 200, 200);
        roped(300, SMALL, 201, 201);
        roped(600, TIPPING, 499, 500);
        roped(600, TIPPING, 500, 500);
        roped(999, SEALED, 999, 999);
    }

    private static void ropedByNumbers() {
        LeakCups ahead = Make.plain();
        ahead.set(1, 50);
        ahead.fill(4, 100);
        ahead.kind(4, ROPED);
        ahead.tick(1);
        due("all of it leaks: none is left to go", ahead.now(3), 0);
        ahead.set(1, 10);
        ahead.fill(4, 24);
        ahead.fill(5, 19);
        // CUP 4: 24 less 4, then less 1; CUP 5: 19 and 1, then less 2
        ahead.tick(1);
        due("it goes ahead of the next number's leak", ahead.cupOf(5, 1), 18);
        due("it goes behind its own leak", ahead.cupOf(4, 1), 19);
        due("LOST", ahead.now(5), 100 + 6);

        LeakCups round = Make.plain();
        round.set(1, 10);
        round.fill(11, 24);
        round.fill(0, 19);
        round.kind(11, ROPED);
        // CUP 0: 19 less 1; CUP 11: 24 less 4, then less 1; CUP 0 has leaked already
        round.tick(1);
        due("0 behind 11", round.cupOf(0, 1), 19);
        due("11 gives to 0", round.cupOf(11, 1), 19);
        due("LOST", round.now(5), 5);
    }

    /** PACE behind a TICK, by CUP 1 (LEVER 50) or 7 (-50) alone. */
    private static int pulled(int cup, int water, int heavy) {
        LeakCups x = Make.plain();
        x.set(3, heavy);
        x.fill(cup, water);
        return x.tick(1);
    }

    private static int rubbed(int pace, int rub) {
        LeakCups x = Make.plain();
        x.set(2, rub);
        x.touch(pace);
        return x.tick(1);
    }

    private static void quotients() {
        due("50 by 100", pulled(1, 1, 1), 0);
        due("-50 by 100", pulled(7, 1, 1), 0);
        due("100 by 100", pulled(1, 2, 1), 1);
        due("-100 by 100", pulled(7, 2, 1), -1);
        due("-150 by 100", pulled(7, 3, 1), -1);
        due("9850 by 9900", pulled(1, 197, 99), 0);
        due("9900 by 9900", pulled(1, 198, 99), 1);
        due("-9850 by 9900", pulled(7, 197, 99), 0);
        due("-9900 by 9900", pulled(7, 198, 99), -1);
        due("9 times 11 by 100", rubbed(9, 11), 9);
        due("-9 times 11 by 100", rubbed(-9, 11), -9);
        due("10 times 10 by 100", rubbed(10, 10), 9);
        due("-10 times 10 by 100", rubbed(-10, 10), -9);
        due("1 times 99 by 100", rubbed(1, 99), 1);
        due("100 times 99 by 100", rubbed(100, 99), 1);
        due("-200 times 99 by 100", rubbed(-200, 99), -2);
    }

    private static void paceIsHeld() {
        int[] pulls = {599, 600, 601, 999};
        for (int pull : pulls) {
            LeakCups up = Make.plain();
            up.fill(3, pull);
            due("PACE by " + pull, up.tick(1), Math.min(pull, 600));
            due("ANGLE is that PACE more", up.now(1), Math.min(pull, 600));
            LeakCups down = Make.plain();
            down.fill(9, pull);
            due("PACE by -" + pull, down.tick(1), -Math.min(pull, 600));
            due("ANGLE is that PACE more", down.now(1), 1200 - Math.min(pull, 600));
        }
        LeakCups x = Make.plain();
        for (int i = 0; i < 3; i++) {
            x.touch(199);
        }
        due("a TOUCH up to 600", x.touch(3), 600);
        due("a TOUCH above it", x.touch(1), 600);
        due("a TOUCH down from there", x.touch(-1), 599);
        for (int i = 0; i < 5; i++) {
            x.touch(-200);
        }
        due("a TOUCH down to -600", x.touch(-199), -600);
        due("a TOUCH below it", x.touch(-200), -600);
        due("a TOUCH up from there", x.touch(200), -400);
        Make.read(x, "touch-200;touch-200;touch 0");
        due("a DEED's TOUCH is held", x.play(0), -600);
        Make.read(x, "touch 200;touch 200;touch 200;touch 200;touch 200;touch 200;touch 1");
        due("a DEED's TOUCH is held", x.play(1), 600);
        due("no DEED's TOUCH is a TURN", x.count(5), 0);
        due("and what a run ahead touches", x.apart(200, 0), 0);
    }

    private static void turned(int angle, int pace, int want) {
        LeakCups x = Make.plain();
        x.stop(angle);
        int left = pace;
        for (int i = 0; i < 3; i++) {
            int by = Math.max(-200, Math.min(left, 200));
            x.touch(by);
            left -= by;
        }
        due("ANGLE " + angle + ", PACE " + pace, x.tick(1), pace);
        due("ANGLE " + angle + " and " + pace, x.now(1), want);
    }

    private static void angleGoesRound() {
        turned(1198, 1, 1199);
        turned(1199, 1, 0);
        turned(1199, 2, 1);
        turned(1, -1, 0);
        turned(0, -1, 1199);
        turned(0, -2, 1198);
        turned(600, 600, 0);
        turned(599, 600, 1199);
        turned(1199, 600, 599);
        turned(600, -600, 0);
        turned(599, -600, 1199);
        turned(0, -600, 600);
        turned(1199, 0, 1199);
    }

    private static void wayAtFirst() {
        LeakCups x = Make.plain();
        due("a TOUCH by 0", x.touch(0), 0);
        due("never moved", x.now(2), 0);
        x.tick(5);
        x.stop(7);
        due("never moved", x.now(2), 0);
        due("no TURN at first", Make.swing(x, -3), -3);
        due("WAY by a TICK", x.now(2), -1);
        due("no TURN out of WAY 0", x.count(5), 0);
        x.stop(0);
        x.tick(1);
        due("WAY stays at PACE 0", x.now(2), -1);
        x.touch(0);
        due("WAY stays with a TOUCH by 0", x.now(2), -1);
        x.touch(1);
        due("WAY by a TOUCH", x.now(2), 1);
        x.touch(-1);
        due("WAY stays with a TOUCH to 0", x.now(2), 1);
        due("a TOUCH counts: a TURN", Make.swing(x, -3), -3);
        due("a TOUCH counts: a TURN", x.count(5), 1);
    }

    private static void rest(LeakCups x) {
        x.stop(0);
        x.tick(1);
    }

    /** TURNS in each second TICK as long as THE LOG has room, then in each TICK, with PEAKS of their own. */
    private static void logIsFull() {
        LeakCups x = Make.plain();
        Make.swing(x, 200);
        int sign = -1;
        for (int i = 1; i <= 40; i++) {
            rest(x);
            Make.swing(x, sign * (200 - i));
            sign = -sign;
            due("TURNS", x.count(5), i);
            due("TURNS of THE LOG", x.count(4), i);
        }
        due("the last of THE LOG", x.turn(39, 0), 81);
        long before = log(x);
        for (int i = 1; i <= 3; i++) {
            Make.swing(x, sign * (300 + i));
            sign = -sign;
            due("all TURNS", x.count(5), 40 + i);
            due("TURNS of THE LOG", x.count(4), 40);
        }
        due("THE LOG keeps the first 40", log(x), before);
        due("P12 no 41st", x.turn(40, 1), BEYOND);
        due("P13 of THE LOG alone", x.nextPeak(600), 199);
        due("P13 the last of THE LOG has no next one", x.nextPeak(161), 161);
        due("P14 of THE LOG alone", x.rising(), 0);
        due("P15 of THE LOG alone", x.quickest(), 2);
    }

    private static long log(LeakCups x) {
        long print = 7;
        for (int i = 0; i < 40; i++) {
            print = (print * 1000003 + x.turn(i, 0)) * 1000003 + x.turn(i, 1);
        }
        return print;
    }

    /** PEAKS count from the first TICK on; what was PACE ahead of it, or by a TOUCH, is none. */
    private static void peaks() {
        LeakCups x = Make.plain();
        x.touch(100);
        x.stop(0);
        due("a TURN in TICK 1", Make.swing(x, -9), -9);
        due("no TICK ahead of it", x.turn(0, 1), 0);
        due("a TURN in TICK 2", Make.swing(x, 3), 3);
        due("its PEAK is that of TICK 1", x.turn(1, 1), 9);
        due("a TURN in TICK 3", Make.swing(x, -600), -600);
        due("its PEAK is that of TICK 2, not its own", x.turn(2, 1), 3);
        x.stop(0);
        x.tick(1);
        due("a TURN in TICK 5", Make.swing(x, 1), 1);
        due("its PEAK is the greatest there can be", x.turn(3, 1), 600);
    }

    /** Nearly all of the 512 calls as long runs: numbers stay right however long it turns. */
    private static void asLongAsItIsUsed() {
        int turns = 0;
        for (int seed = 401; seed <= 408; seed++) {
            LeakCups x = new LeakCups();
            Model model = new Model();
            model.disturb(x, seed);
            model.tap = 99;
            x.set(0, 99);
            model.rub = 0;
            x.set(2, 0);
            for (int i = 0; i < 350; i++) {
                x.tick(100);
            }
            for (int t = 0; t < 35000; t++) {
                model.tick();
            }
            model.compare(CHECK, x, "long run " + seed);
            turns += model.turnTicks.size();
        }
        CHECK.holds("there are TURNS: " + turns, turns > 400);
    }
}
