/** What several tests begin with. */
final class Make {
    /** How many numbers each of the SHEETS of rich() has. */
    static final int RICH_NUMBERS = 6;

    private Make() {
    }

    /** A wheel without tap, leak and rub, HEAVY 1: PACE grows by torque by 100 alone. */
    static LeakCups plain() {
        LeakCups x = new LeakCups();
        x.set(0, 0);
        x.set(1, 0);
        x.set(2, 0);
        x.set(3, 1);
        return x;
    }

    /**
     * Something of all that an object holds, and no finding yet: some TURNS, two PROGRAMS, all SPOTS, SHEETS of 16
     * bits, bytes on THE TAPE, an image that differs from what is now. CUP 0 is empty, CUPS 1 to 7 are of the KINDS 0
     * to 6, and each has room.
     */
    static LeakCups rich() {
        LeakCups x = plain();
        int[] paces = {20, -35, 30, -15};
        for (int pace : paces) {
            swing(x, pace);
        }
        read(x, "touch-5;wait 9");
        read(x, "tap 44;deep 2");
        x.set(0, 33);
        for (int kind = 0; kind <= 6; kind++) {
            x.kind(1 + kind, kind);
            x.fill(1 + kind, 120 + kind);
        }
        x.seed(-77);
        x.hold(4, 4);
        x.image();
        fillRest(x);
        return x;
    }

    private static void fillRest(LeakCups x) {
        for (int spot = 0; spot < 10; spot++) {
            x.hold(spot, 11 - spot);
        }
        for (int s = 0; s < 4; s++) {
            x.sheet(s, 16, RICH_NUMBERS);
            for (int i = 0; i < RICH_NUMBERS; i++) {
                x.write(s, i, 10 * s + i);
            }
        }
        x.set(1, 3);
        x.set(2, 4);
        x.set(3, 70);
        x.stop(1150);
        x.tick(2);
        x.seed(99);
        x.touch(-7);
        x.empty(0);
        type(x, "rub 7;wait 3");
    }

    /** One TICK of a plain wheel from rest, behind which PACE is as told: of another sign than WAY, that is a TURN. */
    static int swing(LeakCups x, int pace) {
        x.stop(0);
        int cup = pace > 0 ? 3 : 9;
        x.fill(cup, Math.abs(pace));
        int got = x.tick(1);
        x.empty(cup);
        return got;
    }

    static void type(LeakCups x, String text) {
        for (int i = 0; i < text.length(); i++) {
            x.feed(text.charAt(i), 1);
        }
    }

    /** A TEXT comes on THE TAPE and is read: what program() answers. */
    static int read(LeakCups x, String text) {
        type(x, text);
        return x.program();
    }
}
