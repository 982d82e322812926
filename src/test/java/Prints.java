/** One number for all that an object tells without a change, status() and SHEETS left out. */
final class Prints {
    private Prints() {
    }

    static long of(LeakCups x) {
        long print = 7;
        for (int what = 0; what <= 7; what++) {
            print = print * 1000003 + x.now(what);
        }
        for (int what = 0; what <= 8; what++) {
            print = print * 1000003 + x.count(what);
        }
        for (int cup = 0; cup < 12; cup++) {
            print = print * 1000003 + x.cupOf(cup, 0);
            print = print * 1000003 + x.cupOf(cup, 1);
        }
        for (int program = 0; program < x.count(6); program++) {
            print = print * 1000003 + x.programOf(program, 0);
            print = print * 1000003 + x.programOf(program, 1);
        }
        int logged = x.count(4);
        for (int i = 0; i < logged; i++) {
            print = print * 1000003 + x.turn(i, 0);
            print = print * 1000003 + x.turn(i, 1);
        }
        return print;
    }
}
