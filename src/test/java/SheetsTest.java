/** Promises 33 to 39: spots and sheets. */
public final class SheetsTest {
    private static final int BEYOND = -1000001;
    private static final int KIND = -1000003;
    private static final int MISSING = -1000006;
    private static final int SIZE = -1000007;

    private static final Check CHECK = new Check("SheetsTest");

    public static void main(String[] args) {
        hold();
        as();
        sheet();
        write();
        copy();
        copyFindings();
        load();
        loadAtRoom();
        judge();
        judgeSigns();
        CHECK.end();
    }

    private static void due(String what, long got, long want) {
        CHECK.due(what, got, want);
    }

    private static void put(LeakCups x, int s, int bits, int... numbers) {
        due("a sheet", x.sheet(s, bits, numbers.length), numbers.length);
        for (int i = 0; i < numbers.length; i++) {
            due("a number", x.write(s, i, numbers[i]), 1);
        }
    }

    /** A wheel at rest whose PACES ahead are all PACE, so that judge() tells what a sheet holds. */
    private static LeakCups even(int pace) {
        LeakCups x = new LeakCups();
        x.set(0, 0);
        x.set(2, 0);
        bring(x, pace);
        return x;
    }

    private static void bring(LeakCups x, int pace) {
        x.stop(0);
        for (int left = pace; left != 0; ) {
            int by = Math.max(-200, Math.min(left, 200));
            x.touch(by);
            left -= by;
        }
    }

    /** What a number of a sheet is, for one within -600 to 600: the PACE by which judge() goes past it. */
    private static boolean isNumber(LeakCups x, int s, int i, int v) {
        x.sheet(3, 32, 0);
        bring(x, v);
        // the number alone, at the begin of sheet 3
        for (int bits = 8; bits <= 32; bits *= 2) {
            x.sheet(3, bits, 1);
            if (x.copy(s, i, 3, 0, 1) == 1) {
                return x.judge(3) == 0;
            }
        }
        return false;
    }

    private static void hold() {
        LeakCups x = new LeakCups();
        due("P33 the first", x.hold(0, 11), 1);
        due("P33 the last", x.hold(9, 0), 1);
        due("P33 held", x.as(0, 0), 11);
        due("P33 held", x.as(9, 0), 0);
        due("P33 another", x.hold(0, 4), 1);
        due("P33 held", x.as(0, 0), 4);
        due("P33 nothing", x.hold(0, -1), 1);
        due("P33 nothing", x.as(0, 0), MISSING);
        due("P33 no such spot", x.hold(10, 0), BEYOND);
        due("P33 no such spot", x.hold(-1, 0), BEYOND);
        due("P33 no such cup", x.hold(9, 12), BEYOND);
        due("P33 no such cup", x.hold(9, -2), BEYOND);
        due("P33 nothing changed", x.as(9, 0), 0);
    }

    private static void as() {
        int[][] isOf = {{0}, {0, 1}, {0, 2}, {0, 3}, {0, 2, 4}, {0, 3, 5}, {0, 2, 4, 6}};
        for (int kind = 0; kind < 7; kind++) {
            LeakCups x = new LeakCups();
            x.kind(8, kind);
            x.hold(2, 8);
            for (int asked = 0; asked < 7; asked++) {
                boolean isSo = false;
                for (int k : isOf[kind]) {
                    isSo |= k == asked;
                }
                due("P34 one of " + kind + " as " + asked, x.as(2, asked), isSo ? 8 : KIND);
            }
            due("P34 KIND is counted", x.status(2), 7 - isOf[kind].length);
        }
        LeakCups x = new LeakCups();
        x.hold(1, 3);
        due("P34 no such kind", x.as(1, 7), BEYOND);
        due("P34 no such kind", x.as(1, -1), BEYOND);
        due("P34 no such spot", x.as(10, 0), BEYOND);
        due("P34 no such spot", x.as(-1, 0), BEYOND);
        due("P34 BEYOND ahead of MISSING", x.as(0, 7), BEYOND);
        due("P34 MISSING", x.as(0, 1), MISSING);
        x.kind(3, 2);
        due("P34 as the CUP is now", x.as(1, 2), 3);
    }

    private static void sheet() {
        LeakCups x = new LeakCups();
        int[] widths = {8, 16, 32};
        for (int bits : widths) {
            due("P35 none of " + bits, x.sheet(0, bits, 0), 0);
            due("P35 not MISSING", x.load(0), 0);
            due("P35 40 of " + bits, x.sheet(0, bits, 40), 40);
            due("P35 all 0", x.judge(0), 0);
            due("P35 41", x.sheet(0, bits, 41), BEYOND);
            due("P35 -1", x.sheet(0, bits, -1), SIZE);
            due("P35 nothing changed", x.write(0, 39, 1), 1);
            due("P35 nothing changed", x.write(0, 0, 1), 1);
        }
        due("P35 all 0 again", x.sheet(0, 32, 40), 40);
        due("P35 all 0 again", x.judge(0), 0);
        due("P35 MISSING", x.sheet(0, 0, 40), 0);
        due("P35 MISSING", x.load(0), MISSING);
        due("P35 MISSING, of -1", x.sheet(1, 0, -1), SIZE);
        due("P35 MISSING, of 41", x.sheet(1, 0, 41), BEYOND);
        int[] others = {-1, 1, 7, 9, 24, 64, Integer.MIN_VALUE};
        for (int bits : others) {
            due("P35 other bits " + bits, x.sheet(1, bits, 5), BEYOND);
            due("P35 ahead of SIZE", x.sheet(1, bits, -1), BEYOND);
        }
        due("P35 no such sheet", x.sheet(4, 8, 5), BEYOND);
        due("P35 no such sheet", x.sheet(-1, 8, -5), BEYOND);
        due("P35 the last sheet", x.sheet(3, 8, 5), 5);
        due("P35 SIZE is counted", x.status(6), 4);
    }

    private static void write() {
        LeakCups x = even(0);
        due("P36 MISSING", x.write(0, 0, 1), MISSING);
        due("P36 MISSING ahead of BEYOND", x.write(0, 99, 1), MISSING);
        due("P36 no such sheet", x.write(4, 0, 1), BEYOND);
        due("P36 no such sheet", x.write(-1, 0, 1), BEYOND);
        x.sheet(0, 8, 3);
        due("P36 no such number", x.write(0, 3, 1), BEYOND);
        due("P36 no such number", x.write(0, -1, 1), BEYOND);
        int[][] of8 = {{255, -1}, {127, 127}, {128, -128}, {256, 0}, {-129, 127}, {-1, -1}, {512 + 77, 77}};
        for (int[] v : of8) {
            x.write(0, 1, v[0]);
            CHECK.holds("P36 of 8 bits " + v[0], isNumber(x, 0, 1, v[1]));
        }
        x.sheet(0, 16, 3);
        int[][] of16 = {{65535, -1}, {65536 + 600, 600}, {255, 255}, {-65537, -1}, {-600, -600}};
        for (int[] v : of16) {
            x.write(0, 2, v[0]);
            CHECK.holds("P36 of 16 bits " + v[0], isNumber(x, 0, 2, v[1]));
        }
        x.sheet(0, 32, 3);
        x.write(0, 0, 65536 + 60);
        CHECK.holds("P36 of 32 bits it is as told", !isNumber(x, 0, 0, 60));
        x.write(0, 0, -600);
        CHECK.holds("P36 of 32 bits", isNumber(x, 0, 0, -600));
    }

    private static void copy() {
        LeakCups x = even(0);
        put(x, 0, 16, 10, 20, 30, 40, 50);
        put(x, 1, 16, 1, 2, 3, 4);
        due("P37 three", x.copy(0, 2, 1, 1, 3), 3);
        numbers(x, 1, 1, 30, 40, 50);
        due("P37 forward over itself", x.copy(0, 0, 0, 1, 4), 4);
        numbers(x, 0, 10, 10, 20, 30, 40);
        due("P37 back over itself", x.copy(0, 2, 0, 0, 3), 3);
        numbers(x, 0, 20, 30, 40, 30, 40);
        due("P37 all", x.copy(1, 0, 0, 0, 4), 4);
        numbers(x, 0, 1, 30, 40, 50, 40);
        due("P37 none", x.copy(0, 5, 1, 4, 0), 0);
        numbers(x, 1, 1, 30, 40, 50);
    }

    private static void numbers(LeakCups x, int s, int... want) {
        for (int i = 0; i < want.length; i++) {
            CHECK.holds("number " + i + " is " + want[i], isNumber(x, s, i, want[i]));
        }
    }

    private static void copyFindings() {
        LeakCups x = new LeakCups();
        put(x, 0, 8, 1, 2, 3);
        put(x, 1, 16, 1, 2, 3);
        put(x, 2, 8, 4, 5);
        due("P37 no such sheet", x.copy(4, 0, 0, 0, 1), BEYOND);
        due("P37 no such sheet", x.copy(0, 0, -1, 0, 1), BEYOND);
        due("P37 BEYOND ahead of MISSING", x.copy(3, 0, 4, 0, 1), BEYOND);
        due("P37 MISSING", x.copy(3, 0, 0, 0, 1), MISSING);
        due("P37 MISSING ahead of BEYOND", x.copy(0, -1, 3, 0, 99), MISSING);
        due("P37 KIND", x.copy(0, 0, 1, 0, 1), KIND);
        due("P37 KIND ahead of BEYOND", x.copy(1, -1, 0, 0, 99), KIND);
        due("P37 not so many", x.copy(0, 1, 2, 0, 3), BEYOND);
        due("P37 not so many", x.copy(0, 0, 2, 0, 3), BEYOND);
        due("P37 not so many", x.copy(0, 0, 2, 2, 1), BEYOND);
        due("P37 from below 0", x.copy(0, -1, 2, 0, 1), BEYOND);
        due("P37 to below 0", x.copy(0, 0, 2, -1, 1), BEYOND);
        due("P37 n below 0", x.copy(0, 0, 2, 0, -1), BEYOND);
        due("P37 none, but from beyond", x.copy(0, 4, 2, 0, 0), BEYOND);
        due("P37 far", x.copy(0, Integer.MAX_VALUE, 2, 0, 1), BEYOND);
        due("P37 far", x.copy(0, 1, 2, 1, Integer.MAX_VALUE), BEYOND);
        due("P37 the counts", x.status(0), 12);
        due("P37 nothing came", x.load(2), 2);
        due("P37 nothing came", x.cupOf(0, 1), 4);
    }

    private static void load() {
        LeakCups x = new LeakCups();
        due("P38 MISSING", x.load(0), MISSING);
        due("P38 no such sheet", x.load(4), BEYOND);
        due("P38 no such sheet", x.load(-1), BEYOND);
        put(x, 0, 32, 999, 0, 200, 201, 7);
        x.fill(1, 5);
        x.kind(2, 4);
        x.kind(3, 6);
        x.fill(3, 9);
        due("P38 up to the first above ROOM", x.load(0), 3);
        int[] water = {999, 0, 200, 9, 0};
        for (int cup = 0; cup < water.length; cup++) {
            due("P38 WATER of " + cup, x.cupOf(cup, 1), water[cup]);
        }
        put(x, 1, 16, 3, -1, 3);
        due("P38 up to the first below 0", x.load(1), 1);
        put(x, 1, 8, 200, 3);
        due("P38 of 8 bits 200 is below 0", x.load(1), 0);
        x.sheet(2, 8, 0);
        due("P38 none", x.load(2), 0);
        LeakCups many = new LeakCups();
        many.sheet(0, 32, 40);
        for (int i = 0; i < 40; i++) {
            many.write(0, i, 100 + i);
        }
        due("P38 a CUP each", many.load(0), 12);
        due("P38 the last CUP", many.cupOf(11, 1), 111);
        due("P38 all", many.now(3), 12 * 100 + 66);
        due("P38 nothing is spilt", many.now(4), 0);
    }

    private static void loadAtRoom() {
        int[] rooms = {999, 999, 999, 999, 200, 500, 200};
        for (int kind = 0; kind < rooms.length; kind++) {
            LeakCups x = new LeakCups();
            x.kind(1, kind);
            x.fill(1, 7);
            put(x, 0, 32, 3, rooms[kind] + 1, 3);
            due("P38 above ROOM of kind " + kind, x.load(0), 1);
            due("P38 WATER stays", x.cupOf(1, 1), 7);
            x.write(0, 1, rooms[kind]);
            due("P38 as much as ROOM of kind " + kind, x.load(0), 3);
            due("P38 WATER", x.cupOf(1, 1), rooms[kind]);
            x.write(0, 1, -1);
            due("P38 below 0", x.load(0), 1);
            x.write(0, 1, 0);
            due("P38 0", x.load(0), 3);
            due("P38 WATER", x.cupOf(1, 1), 0);
        }
        for (int n = 0; n <= 14; n++) {
            LeakCups x = new LeakCups();
            x.sheet(0, 8, n);
            for (int i = 0; i < n; i++) {
                x.write(0, i, 1);
            }
            due("P38 of " + n, x.load(0), Math.min(n, 12));
            due("P38 WATER of all, of " + n, x.now(3), Math.min(n, 12));
        }
        LeakCups full = new LeakCups();
        full.fill(0, 999);
        full.kind(0, 4);
        put(full, 0, 16, 200);
        due("P38 WATER becomes it, whatever it was", full.load(0), 1);
        due("P38 WATER", full.cupOf(0, 1), 200);
    }

    /** Numbers with their sign, at the edges of their bits, against PACES. */
    private static void judgeSigns() {
        int[][] rows = {
            {8, 127, 127}, {8, 128, -128}, {8, 255, -1}, {8, 256, 0}, {8, 257, 1}, {8, -128, -128}, {8, -129, 127},
            {16, 255, 255}, {16, 600, 600}, {16, -600, -600}, {16, 65535, -1}, {16, 65536, 0}, {16, 64936, -600}, {16, 65536 + 600, 600},
            {32, 600, 600}, {32, -600, -600}, {32, -1, -1}, {32, 0, 0}
        };
        for (int[] row : rows) {
            LeakCups x = even(row[2]);
            put(x, 0, row[0], row[1], row[1]);
            due("P39 of " + row[0] + " bits " + row[1], x.judge(0), 0);
            x.touch(row[2] > 0 ? -1 : 1);
            due("P39 and nothing else", x.judge(0), 1);
        }
        int[][] others = {{8, 300, 300}, {8, 128, 128}, {16, 65535, 0}, {32, 255, -1}, {32, 65535, -1}, {32, 65536, 0}};
        for (int[] row : others) {
            LeakCups x = even(row[2]);
            put(x, 0, row[0], row[1]);
            due("P39 of " + row[0] + " bits " + row[1] + " is not " + row[2], x.judge(0), 1);
        }
    }

    private static void judge() {
        LeakCups x = new LeakCups();
        due("P39 MISSING", x.judge(0), MISSING);
        due("P39 no such sheet", x.judge(4), BEYOND);
        due("P39 no such sheet", x.judge(-1), BEYOND);
        x.sheet(0, 8, 0);
        due("P39 none", x.judge(0), 0);
        x.set(0, 90);
        x.set(2, 2);
        x.touch(150);
        x.sheet(0, 16, 40);
        for (int i = 0; i < 40; i++) {
            x.write(0, i, x.ahead(i + 1, 0));
        }
        due("P39 all are", x.judge(0), 0);
        int[] places = {39, 20, 1, 0};
        for (int i : places) {
            x.write(0, i, 601);
            due("P39 the first that isn't", x.judge(0), 1 + i);
        }
        due("P39 nothing changes", x.now(6), 0);
        due("P39 nothing changes", x.now(0), 150);
    }
}
