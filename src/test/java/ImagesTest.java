/** Promises 40 to 44: images, count() and status(). */
public final class ImagesTest {
    private static final int BEYOND = -1000001;
    private static final int FULL = -1000002;
    private static final int NONE = -1000004;
    private static final int MISSING = -1000006;

    private static final Check CHECK = new Check("ImagesTest");

    public static void main(String[] args) {
        allIsKept();
        whatIsNotKept();
        theLatestStays();
        programsOfAnImage();
        roomForPrograms();
        imageOfNothing();
        goesOnAlike();
        tear();
        count();
        status();
        statusOfEach();
        CHECK.end();
    }

    private static void due(String what, long got, long want) {
        CHECK.due(what, got, want);
    }

    private static void change(LeakCups x, int by) {
        for (int what = 0; what < 4; what++) {
            x.set(what, 3 + what + by);
        }
        x.fill(by, 50 + by);
        x.kind(by + 1, by + 1);
        x.touch(40 - 50 * by);
        x.tick(20 + by);
        x.hold(0, by);
        x.seed(70 + by);
        Make.read(x, "wait " + (1 + by));
    }

    private static void allIsKept() {
        LeakCups x = new LeakCups();
        change(x, 0);
        long before = Prints.of(x);
        due("P40 image", x.image(), 1);
        due("P40 nothing changes", Prints.of(x), before);
        change(x, 1);
        CHECK.holds("it changed", Prints.of(x) != before);
        due("P41 TICKS so far", x.undo(), 20);
        due("P41 all is back", Prints.of(x), before);
        due("P41 the SPOT too", x.as(0, 0), 0);
        due("P41 Z too", x.count(8), 70);
        due("P41 PROGRAMS too", x.count(6), 1);
    }

    private static void whatIsNotKept() {
        LeakCups x = new LeakCups();
        x.feed(0, 3);
        x.sheet(0, 8, 1);
        x.image();
        x.feed(0, 2);
        x.sheet(0, 8, 2);
        x.write(0, 1, 9);
        x.sheet(1, 8, 2);
        x.tick(0);
        due("P41 back", x.undo(), 0);
        due("P41 THE TAPE isn't kept", x.count(7), 5);
        due("P41 SHEETS aren't kept", x.load(0), 2);
        due("P41 SHEETS aren't kept", x.cupOf(1, 1), 9);
        due("P41 SHEETS aren't kept", x.load(1), 2);
        due("P41 takes no finding back", x.status(0), 1);
        due("P41 a TAPE that was wiped stays so", x.wipe(), 5);
        x.undo();
        due("P41 a TAPE that was wiped stays so", x.count(7), 0);
    }

    private static void theLatestStays() {
        LeakCups x = new LeakCups();
        due("P41 nothing is kept", x.undo(), NONE);
        due("P41 NONE is counted", x.status(3), 1);
        x.tick(3);
        x.image();
        x.tick(4);
        x.image();
        for (int again = 0; again < 3; again++) {
            x.tick(5);
            due("P41 the latest, which stays", x.undo(), 7);
        }
        x.set(0, 44);
        x.undo();
        due("P41 what comes behind doesn't reach it", x.count(0), 10);
    }

    private static void programsOfAnImage() {
        LeakCups x = new LeakCups();
        Make.read(x, "wait 1");
        x.image();
        Make.read(x, "wait 2;tap 5");
        x.undo();
        due("P41 that PROGRAM isn't there", x.programOf(1, 0), BEYOND);
        due("P41 its number comes again", Make.read(x, "wait 3"), 1);
        due("P41 it is the new one", x.programOf(1, 1), 3);
        due("P41 it is the new one", x.programOf(1, 0), 1);
        due("P41 the kept one", x.programOf(0, 1), 1);
    }

    private static void roomForPrograms() {
        LeakCups x = new LeakCups();
        for (int i = 0; i < 5; i++) {
            Make.read(x, "wait " + (1 + i));
        }
        x.image();
        due("P18 the last", Make.read(x, "wait 50"), 5);
        due("P18 FULL", Make.read(x, "wait 49"), FULL);
        x.undo();
        due("P41 PROGRAMS are five again", x.count(6), 5);
        due("P41 THE TAPE isn't kept", x.program(), 5);
        due("P41 the new one", x.programOf(5, 1), 49);
        x.image();
        x.feed(' ', 1);
        due("P18 FULL", x.program(), FULL);
        x.undo();
        due("P41 PROGRAMS are six", x.count(6), 6);
        due("P41 FULL as it was", x.program(), FULL);
        due("P44 undo() takes none back", x.status(1), 3);
    }

    /** A new object is something to keep. */
    private static void imageOfNothing() {
        LeakCups x = new LeakCups();
        x.image();
        change(x, 1);
        due("P41 TICKS so far", x.undo(), 0);
        due("P41 as at first", Prints.of(x), Prints.of(new LeakCups()));
        due("P41 the SPOT too", x.as(0, 0), MISSING);
        due("P42 something was kept", x.tear(), 1);
        due("P41 and what is now stays", Prints.whole(x), Prints.whole(new LeakCups()));
    }

    /** What is not told at once, such as the PEAK so far, is kept too. */
    private static void goesOnAlike() {
        for (int seed = 301; seed <= 320; seed++) {
            LeakCups x = new LeakCups();
            new Model().disturb(x, seed);
            x.set(0, 80);
            x.set(2, 3);
            x.tick(60);
            x.image();
            x.tick(70);
            long first = Prints.of(x);
            x.undo();
            x.touch(100);
            x.tick(33);
            x.undo();
            x.tick(70);
            due("P41 it goes as it went, seed " + seed, Prints.of(x), first);
        }
    }

    private static void tear() {
        LeakCups x = new LeakCups();
        due("P42 nothing", x.tear(), 0);
        x.image();
        x.image();
        x.tick(1);
        due("P42 something", x.tear(), 1);
        due("P42 nothing more", x.tear(), 0);
        due("P42 nothing to undo", x.undo(), NONE);
        due("P42 all is as it was", x.now(6), 1);
        x.image();
        due("P42 kept again", x.undo(), 1);
    }

    private static void count() {
        LeakCups x = new LeakCups();
        for (int what = 0; what < 4; what++) {
            x.set(what, 21 + what);
        }
        Make.read(x, "tap 1");
        Make.read(x, "tap 2");
        x.feed(0, 3);
        x.seed(-5);
        int[] want = {21, 22, 23, 24, 0, 0, 2, 3, -5};
        for (int what = 0; what < want.length; what++) {
            due("P43 count(" + what + ")", x.count(what), want[what]);
        }
        due("P43 no such what", x.count(9), BEYOND);
        due("P43 no such what", x.count(-1), BEYOND);
        LeakCups turning = new LeakCups();
        turning.touch(5);
        turning.fill(9, 999);
        turning.tick(1);
        due("P43 TURNS of THE LOG", turning.count(4), 1);
        due("P43 all TURNS", turning.count(5), 1);
    }

    private static void status() {
        LeakCups x = new LeakCups();
        due("P44 none", x.status(-1), 0);
        due("P44 another one", x.status(7), BEYOND);
        due("P44 counted from then on", x.status(-1), 1);
        due("P44 another one", x.status(-2), BEYOND);
        due("P44 BEYOND", x.status(0), 2);
        x.image();
        x.as(0, 0);
        x.undo();
        due("P44 undo() takes none back", x.status(5), 1);
        due("P44 all", x.status(-1), 3);
    }

    private static void statusOfEach() {
        LeakCups x = new LeakCups();
        x.set(9, 0);
        x.fill(0, 999);
        x.fill(0, 1);
        x.fill(0, 2);
        x.hold(0, 0);
        for (int i = 0; i < 3; i++) {
            x.as(0, 1);
        }
        for (int i = 0; i < 4; i++) {
            x.quickest();
        }
        for (int i = 0; i < 5; i++) {
            due("P44 an act that finds", x.load(0), MISSING);
        }
        for (int i = 0; i < 6; i++) {
            x.sheet(0, 8, -1);
        }
        int[] want = {1, 2, 3, 4, 0, 5, 6};
        for (int which = 0; which < want.length; which++) {
            due("P44 status(" + which + ")", x.status(which), want[which]);
        }
        due("P44 all", x.status(-1), 21);
    }
}
