/** Promises 1 to 11: a new object, and the wheel. */
public final class WheelTest {
    private static final int BEYOND = -1000001;
    private static final int FULL = -1000002;
    private static final int NONE = -1000004;
    private static final int MISSING = -1000006;

    private static final Check CHECK = new Check("WheelTest");

    public static void main(String[] args) {
        newObject();
        set();
        kind();
        places();
        roomsAndLeaks();
        fill();
        empty();
        touch();
        stop();
        tickPace();
        tickWater();
        tickKinds();
        ropes();
        tickEdges();
        now();
        torque();
        CHECK.end();
    }

    private static void due(String what, long got, long want) {
        CHECK.due(what, got, want);
    }

    private static void newObject() {
        LeakCups x = new LeakCups();
        int[] counts = {10, 5, 10, 10, 0, 0, 0, 0, 1};
        for (int what = 0; what < counts.length; what++) {
            due("P1 count(" + what + ")", x.count(what), counts[what]);
        }
        for (int what = 0; what <= 7; what++) {
            due("P1 now(" + what + ")", x.now(what), 0);
        }
        for (int cup = 0; cup < 12; cup++) {
            due("P1 KIND of " + cup, x.cupOf(cup, 0), 0);
            due("P1 WATER of " + cup, x.cupOf(cup, 1), 0);
            due("P1 PLACE of " + cup, x.cupOf(cup, 2), cup);
        }
        due("P1 no finding", x.status(-1), 0);
        for (int spot = 0; spot < 10; spot++) {
            due("P1 spot " + spot, x.as(spot, 0), MISSING);
        }
        for (int s = 0; s < 4; s++) {
            due("P1 sheet " + s, x.load(s), MISSING);
        }
        due("P1 no program", x.play(0), BEYOND);
        due("P1 no image", x.tear(), 0);
        due("P1 nothing to undo", x.undo(), NONE);
        due("P1 the tape is empty", x.wipe(), 0);
    }

    private static void set() {
        LeakCups x = new LeakCups();
        int[] first = {10, 5, 10, 10};
        for (int what = 0; what < 4; what++) {
            int least = what == 3 ? 1 : 0;
            due("P2 what it was", x.set(what, 99), first[what]);
            due("P2 the greatest", x.set(what, least), 99);
            due("P2 the least", x.set(what, 33 + what), least);
            due("P2 above", x.set(what, 100), BEYOND);
            due("P2 below", x.set(what, least - 1), BEYOND);
        }
        for (int what = 0; what < 4; what++) {
            due("P2 each is its own", x.count(what), 33 + what);
        }
        due("P2 no such what", x.set(4, 1), BEYOND);
        due("P2 no such what", x.set(-1, 1), BEYOND);
        due("P2 findings", x.status(0), 10);
    }

    private static void kind() {
        LeakCups x = new LeakCups();
        for (int kind = 0; kind < 7; kind++) {
            due("P3 at first", x.kind(kind, kind), 0);
        }
        due("P3 what it was", x.kind(6, 2), 6);
        due("P3 what it is", x.cupOf(6, 0), 2);
        due("P3 the last cup", x.kind(11, 6), 0);
        due("P3 no such cup", x.kind(12, 0), BEYOND);
        due("P3 no such cup", x.kind(-1, 0), BEYOND);
        due("P3 no such kind", x.kind(3, 7), BEYOND);
        due("P3 no such kind", x.kind(3, -1), BEYOND);
        due("P3 nothing changed", x.cupOf(3, 0), 3);
        due("P3 keeps its water", x.fill(0, 999), 999);
        x.kind(0, 4);
        due("P3 keeps its water", x.cupOf(0, 1), 999);
        due("P3 room of its new kind", x.cupOf(0, 3), 200);
    }

    private static void places() {
        LeakCups x = new LeakCups();
        x.stop(99);
        due("P4 PLACE of 0 at 99", x.cupOf(0, 2), 0);
        x.stop(100);
        due("P4 PLACE of 0 at 100", x.cupOf(0, 2), 1);
        due("P4 PLACE of 11 at 100", x.cupOf(11, 2), 0);
        x.stop(1199);
        due("P4 PLACE of 0 at 1199", x.cupOf(0, 2), 11);
        due("P4 PLACE of 1 at 1199", x.cupOf(1, 2), 0);
        due("P4 no such cup", x.cupOf(12, 0), BEYOND);
        due("P4 no such cup", x.cupOf(-1, 0), BEYOND);
        due("P4 no such what", x.cupOf(0, 5), BEYOND);
        due("P4 no such what", x.cupOf(0, -1), BEYOND);
    }

    private static void roomsAndLeaks() {
        int[] rooms = {999, 999, 999, 999, 200, 500, 200};
        // of 199 of WATER: 59 of 199 times 30 by 100; 29 of 99; 137 of 199 times 69, so that twice is too much
        int[] leaksAt30 = {59, 0, 118, 29, 118, 29, 118};
        int[] leaksAt69 = {137, 0, 199, 68, 199, 68, 199};
        for (int kind = 0; kind < 7; kind++) {
            LeakCups x = new LeakCups();
            x.kind(2, kind);
            x.set(1, 30);
            due("P4 ROOM of kind " + kind, x.cupOf(2, 3), rooms[kind]);
            due("P4 an empty one of kind " + kind, x.cupOf(2, 4), 0);
            x.fill(2, 199);
            due("P4 leak 30 of kind " + kind, x.cupOf(2, 4), leaksAt30[kind]);
            x.set(1, 69);
            due("P4 leak 69 of kind " + kind, x.cupOf(2, 4), leaksAt69[kind]);
            x.stop(400);
            due("P4 lowest, kind " + kind, x.cupOf(2, 4), kind == 5 ? 199 : leaksAt69[kind]);
            x.set(1, 0);
            due("P4 lowest, no leak, kind " + kind, x.cupOf(2, 4), kind == 5 ? 199 : 0);
        }
        LeakCups deep = new LeakCups();
        deep.set(1, 99);
        deep.kind(0, 3);
        deep.fill(0, 100);
        due("P4 DEEP keeps 100", deep.cupOf(0, 4), 0);
        deep.fill(0, 2);
        due("P4 DEEP above 100", deep.cupOf(0, 4), 1);
        LeakCups cracked = new LeakCups();
        cracked.kind(0, 2);
        cracked.fill(0, 19);
        due("P4 twice what a CUP leaks, cut ahead of the twice", cracked.cupOf(0, 4), 0);
    }

    private static void fill() {
        LeakCups x = new LeakCups();
        due("P5 the least", x.fill(3, 1), 1);
        due("P5 more", x.fill(3, 998), 999);
        due("P5 no room", x.fill(3, 1), FULL);
        due("P5 n too small", x.fill(4, 0), BEYOND);
        due("P5 n too great", x.fill(4, 1000), BEYOND);
        due("P5 BEYOND ahead of FULL", x.fill(3, 1000), BEYOND);
        due("P5 no such cup", x.fill(12, 1), BEYOND);
        due("P5 no such cup", x.fill(-1, 1), BEYOND);
        due("P5 nothing changed", x.now(3), 999);
        x.kind(5, 5);
        due("P5 TIPPING's room", x.fill(5, 501), FULL);
        due("P5 TIPPING's room", x.fill(5, 500), 500);
        x.kind(3, 6);
        due("P5 more than its room", x.fill(3, 1), FULL);
        due("P5 what was found", x.status(1), 3);
        due("P5 by hand nothing is spilt", x.now(4), 0);
    }

    private static void empty() {
        LeakCups x = new LeakCups();
        x.fill(7, 70);
        due("P6 what it had", x.empty(7), 70);
        due("P6 nothing now", x.cupOf(7, 1), 0);
        due("P6 an empty one", x.empty(7), 0);
        due("P6 no such cup", x.empty(12), BEYOND);
        due("P6 no such cup", x.empty(-1), BEYOND);
        due("P6 by hand nothing is lost", x.now(5), 0);
    }

    private static void touch() {
        LeakCups x = new LeakCups();
        due("P7 by 200", x.touch(200), 200);
        due("P7 WAY", x.now(2), 1);
        due("P7 by -200", x.touch(-200), 0);
        due("P7 WAY stays at PACE 0", x.now(2), 1);
        due("P7 by -7", x.touch(-7), -7);
        due("P7 WAY", x.now(2), -1);
        due("P7 too much", x.touch(201), BEYOND);
        due("P7 too much", x.touch(-201), BEYOND);
        due("P7 no turn", x.count(5), 0);
        due("P7 no tick", x.now(6), 0);
        for (int i = 0; i < 3; i++) {
            x.touch(-200);
        }
        due("P7 held", x.touch(-200), -600);
        for (int i = 0; i < 6; i++) {
            x.touch(200);
        }
        due("P7 held", x.touch(200), 600);
        due("P7 nothing", x.touch(0), 600);
    }

    private static void stop() {
        LeakCups x = new LeakCups();
        x.touch(-33);
        due("P8 what PACE was", x.stop(1199), -33);
        due("P8 PACE", x.now(0), 0);
        due("P8 ANGLE", x.now(1), 1199);
        due("P8 WAY stays", x.now(2), -1);
        due("P8 again", x.stop(0), 0);
        due("P8 ANGLE", x.now(1), 0);
        due("P8 too great", x.stop(1200), BEYOND);
        due("P8 too small", x.stop(-1), BEYOND);
    }

    private static void tickPace() {
        LeakCups x = Make.plain();
        x.fill(3, 10);
        due("P9 by torque", x.tick(1), 10);
        due("P9 ANGLE", x.now(1), 10);
        x.set(2, 55);
        due("P9 less by rub: 20 less 11", x.tick(1), 9);
        due("P9 ANGLE", x.now(1), 19);
        x.empty(3);
        x.touch(-10);
        due("P9 quotients are cut towards 0: -1 less 0", x.tick(1), -1);
        due("P9 ANGLE", x.now(1), 18);
        x.stop(0);
        x.set(2, 0);
        x.set(3, 7);
        x.fill(9, 20);
        due("P9 heavy: -2000 by 700", x.tick(1), -2);
        due("P9 ANGLE goes round", x.now(1), 1198);
        x.stop(1199);
        x.set(3, 1);
        x.empty(9);
        x.fill(4, 999);
        due("P9 held", x.tick(1), 600);
        due("P9 ANGLE goes round", x.now(1), 599);
        LeakCups held = Make.plain();
        held.set(2, 50);
        held.fill(3, 999);
        held.fill(4, 999);
        due("P9 held behind the rub: 1868 less 934", held.tick(1), 600);
    }

    private static void tickWater() {
        LeakCups x = Make.plain();
        x.set(0, 60);
        x.set(1, 10);
        x.fill(0, 960);
        x.tick(1);
        due("P9 tap to the room, then leak: 999 less 99", x.cupOf(0, 1), 900);
        due("P9 spilt", x.now(4), 21);
        due("P9 lost", x.now(5), 99);
        x.stop(1100);
        x.tick(1);
        due("P9 tap into the cup at place 0: 60 less 6", x.cupOf(1, 1), 54);
        due("P9 the others leak too", x.cupOf(0, 1), 810);
        due("P9 spilt", x.now(4), 21);
        due("P9 lost", x.now(5), 195);
        x.stop(0);
        x.kind(0, 4);
        x.tick(1);
        due("P9 more than its room: nothing comes; 810 less twice 81", x.cupOf(0, 1), 648);
        due("P9 all is spilt", x.now(4), 81);
        due("P9 ticks", x.now(6), 3);
    }

    private static void tickKinds() {
        LeakCups x = Make.plain();
        x.set(1, 20);
        for (int cup = 0; cup < 6; cup++) {
            x.kind(cup, cup);
            x.fill(cup, 150);
        }
        x.kind(7, 5);
        x.fill(7, 150);
        x.stop(1100);
        // CUP 7 comes to PLACE 6: it tips
        x.tick(1);
        int[] water = {120, 150, 90, 140, 90, 140, 0, 0};
        for (int cup = 0; cup < water.length; cup++) {
            due("P9 WATER of " + cup, x.cupOf(cup, 1), water[cup]);
        }
        due("P9 lost", x.now(5), 7 * 150 - 730);
    }

    private static void ropes() {
        LeakCups x = Make.plain();
        x.kind(11, 6);
        x.fill(11, 2);
        x.tick(1);
        due("P9 ROPED 11 gives 1", x.cupOf(11, 1), 1);
        due("P9 CUP 0 gets it", x.cupOf(0, 1), 1);
        x.tick(1);
        due("P9 as much as the next: none goes", x.cupOf(11, 1), 1);
        due("P9 what goes to the next is not lost", x.now(5), 0);

        LeakCups row = Make.plain();
        row.kind(0, 6);
        row.kind(1, 6);
        row.fill(0, 5);
        row.fill(1, 4);
        row.fill(2, 4);
        row.tick(1);
        due("P9 by numbers: 0", row.cupOf(0, 1), 4);
        due("P9 by numbers: 1", row.cupOf(1, 1), 4);
        due("P9 by numbers: 2", row.cupOf(2, 1), 5);

        LeakCups full = Make.plain();
        full.fill(4, 300);
        full.kind(4, 6);
        full.kind(5, 4);
        full.fill(5, 200);
        full.tick(1);
        due("P9 no room in the next", full.cupOf(4, 1), 300);

        LeakCups leaking = Make.plain();
        leaking.set(1, 10);
        leaking.kind(4, 6);
        leaking.kind(5, 1);
        leaking.fill(4, 100);
        leaking.fill(5, 79);
        due("P4 the 1 to the next doesn't leak", leaking.cupOf(4, 4), 20);
        leaking.tick(1);
        due("P9 leaks first, then gives 1", leaking.cupOf(4, 1), 79);
        due("P9 the next", leaking.cupOf(5, 1), 80);
        due("P9 lost", leaking.now(5), 20);
    }

    private static void tickEdges() {
        LeakCups x = new LeakCups();
        due("P9 none", x.tick(0), BEYOND);
        due("P9 too many", x.tick(101), BEYOND);
        due("P9 nothing changed", x.now(6), 0);
        x.tick(1);
        x.tick(100);
        due("P9 ticks", x.now(6), 101);
        compareWithModel();
    }

    /** Long runs, against the second telling of the wheel in Model.java. */
    private static void compareWithModel() {
        for (int seed = 1; seed <= 40; seed++) {
            LeakCups x = new LeakCups();
            Model model = new Model();
            model.disturb(x, seed);
            for (int round = 0; round < 30; round++) {
                int got = x.tick(9);
                for (int t = 0; t < 9; t++) {
                    model.tick();
                }
                due("P9 PACE, model " + seed + ", round " + round, got, model.pace);
            }
            model.compare(CHECK, x, "P9 model " + seed);
        }
    }

    private static void now() {
        LeakCups x = new LeakCups();
        x.set(1, 0);
        x.fill(3, 500);
        x.fill(4, 999);
        x.tick(1);
        // torque 50000 + 86913 by 1000: 136, less 13
        due("P10 PACE", x.now(0), 123);
        due("P10 ANGLE", x.now(1), 123);
        due("P10 WAY", x.now(2), 1);
        due("P10 WATER", x.now(3), 1509);
        due("P10 SPILT", x.now(4), 0);
        due("P10 LOST", x.now(5), 0);
        due("P10 TICKS", x.now(6), 1);
        due("P10 at PLACE 0", x.now(7), 11);
        due("P10 no such what", x.now(8), BEYOND);
        due("P10 no such what", x.now(-1), BEYOND);
        int[] tops = {0, 11, 10, 9, 8, 7, 6, 5, 4, 3, 2, 1};
        for (int place = 0; place < 12; place++) {
            x.stop(place * 100 + 50);
            due("P10 at PLACE 0, angle " + place, x.now(7), tops[place]);
        }
    }

    private static void torque() {
        int[] levers = {0, 50, 87, 100, 87, 50, 0, -50, -87, -100, -87, -50};
        for (int cup = 0; cup < 12; cup++) {
            LeakCups x = new LeakCups();
            x.fill(cup, 3);
            due("P11 of CUP " + cup, x.torque(), 3 * levers[cup]);
            x.stop(300);
            due("P11 of CUP " + cup + " later", x.torque(), 3 * levers[(cup + 3) % 12]);
            x.fill((cup + 1) % 12, 2);
            due("P11 of two", x.torque(), 3 * levers[(cup + 3) % 12] + 2 * levers[(cup + 4) % 12]);
        }
    }
}
