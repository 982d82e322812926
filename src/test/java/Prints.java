/** One number for all that an object tells, status() left out. */
final class Prints {
    private static final int TURNS_PRINTED = 20;

    private final LeakCups x;
    private long print = 7;

    private Prints(LeakCups x) {
        this.x = x;
    }

    /** For what an object tells without a change, SPOTS and SHEETS left out too. */
    static long of(LeakCups x) {
        Prints prints = new Prints(x);
        prints.plain();
        return prints.print;
    }

    /** For all that an object holds: what shows by changes alone too, so that the object is spent by it. */
    static long whole(LeakCups x) {
        Prints prints = new Prints(x);
        prints.plain();
        prints.spots();
        prints.programs();
        prints.sheets();
        prints.swings();
        prints.add(x.undo());
        prints.plain();
        prints.spots();
        prints.programs();
        prints.swings();
        prints.add(x.tear());
        return prints.print;
    }

    private void add(long v) {
        print = print * 1000003 + v;
    }

    private void plain() {
        for (int what = 0; what <= 7; what++) {
            add(x.now(what));
        }
        for (int what = 0; what <= 8; what++) {
            add(x.count(what));
        }
        for (int cup = 0; cup < 12; cup++) {
            add(x.cupOf(cup, 0));
            add(x.cupOf(cup, 1));
        }
        for (int program = 0; program < x.count(6); program++) {
            add(x.programOf(program, 0));
            add(x.programOf(program, 1));
        }
        // some of them alone, for an object has 512 calls
        int logged = x.count(4);
        for (int i = 0; i < Math.min(logged, TURNS_PRINTED); i++) {
            turn(i);
        }
        if (logged > 0) {
            turn(logged - 1);
        }
    }

    private void turn(int i) {
        add(x.turn(i, 0));
        add(x.turn(i, 1));
    }

    private void spots() {
        for (int spot = 0; spot < 10; spot++) {
            add(x.as(spot, 0));
        }
    }

    /** THE TAPE by what it is as a TEXT, PROGRAMS by what they do. */
    private void programs() {
        add(x.program());
        for (int program = 0; program < x.count(6); program++) {
            add(x.play(program));
            for (int what = 0; what < 4; what++) {
                add(x.count(what));
            }
            add(x.now(6));
        }
        for (int cup = 0; cup < 12; cup++) {
            add(x.cupOf(cup, 0));
        }
    }

    /** The first numbers of each, and by a number that its bits cut, how many these are. */
    private void sheets() {
        for (int cup = 0; cup < 12; cup++) {
            x.kind(cup, 0);
        }
        for (int s = 0; s < 4; s++) {
            int came = x.load(s);
            add(came);
            for (int cup = 0; cup < came; cup++) {
                add(x.cupOf(cup, 1));
            }
            add(x.write(s, 0, (1 << 16) + (1 << 8) + 5));
            add(x.load(s));
            add(x.cupOf(0, 1));
        }
    }

    /** A TICK down and one up: one of them is a TURN if WAY was told, and tells the PEAK so far. */
    private void swings() {
        for (int what = 0; what < 4; what++) {
            x.set(what, what == 3 ? 1 : 0);
        }
        for (int cup = 0; cup < 12; cup++) {
            x.empty(cup);
            x.kind(cup, 0);
        }
        for (int cup = 9; cup >= 3; cup -= 6) {
            x.stop(0);
            x.fill(cup, 5);
            add(x.tick(1));
            add(x.now(2));
            x.empty(cup);
        }
        int logged = x.count(4);
        for (int i = Math.max(logged - 2, 0); i < logged; i++) {
            turn(i);
        }
    }
}
