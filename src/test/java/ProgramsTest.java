/** Promises 16 to 20: THE TAPE, TEXTS and PROGRAMS. */
public final class ProgramsTest {
    private static final int BEYOND = -1000001;
    private static final int FULL = -1000002;

    private static final Check CHECK = new Check("ProgramsTest");

    public static void main(String[] args) {
        feed();
        wipe();
        program();
        sixPrograms();
        faults();
        bytesNextToTokens();
        thirteenthDeed();
        everyWord();
        wellFormed();
        wholeTape();
        shorterBehindLonger();
        programOf();
        play();
        playTicksAndTouches();
        CHECK.end();
    }

    private static void due(String what, long got, long want) {
        CHECK.due(what, got, want);
    }

    private static void feed() {
        LeakCups x = new LeakCups();
        due("P16 one byte", x.feed(1, 1), 1);
        due("P16 two", x.feed(1, 2), 3);
        due("P16 three", x.feed(1, 3), 6);
        due("P16 four", x.feed(-1, 4), 10);
        due("P16 none", x.feed(1, 0), BEYOND);
        due("P16 five", x.feed(1, 5), BEYOND);
        for (int i = 0; i < 22; i++) {
            x.feed(0, 4);
        }
        due("P16 98", x.count(7), 98);
        due("P16 too many", x.feed(0, 3), FULL);
        due("P16 BEYOND ahead of FULL", x.feed(0, 5), BEYOND);
        due("P16 just as many", x.feed(0, 2), 100);
        due("P16 full", x.feed(0, 1), FULL);
        due("P16 FULL is counted", x.status(1), 2);
        highestFirst();
    }

    private static void highestFirst() {
        LeakCups x = new LeakCups();
        x.feed(0x78746170, 3);
        x.feed(0x2039, 2);
        due("P16 the highest first: tap 9", x.program(), 0);
        x.play(0);
        due("P16 tap 9", x.count(0), 9);
        x.feed('t' + 0x6b00, 1);
        x.feed(0x7f006170, 2);
        x.feed(0x80203720, 3);
        due("P16 the lowest alone", x.program(), 1);
        x.play(1);
        due("P16 tap 7", x.count(0), 7);
        x.feed(0xff746170, 4);
        due("P16 the highest too", x.program(), -1);
    }

    private static void wipe() {
        LeakCups x = new LeakCups();
        due("P17 nothing", x.wipe(), 0);
        Make.type(x, "tap");
        due("P17 three", x.wipe(), 3);
        due("P17 empty then", x.count(7), 0);
        due("P17 and starts anew", Make.read(x, "rub 1"), 0);
    }

    private static void program() {
        LeakCups x = new LeakCups();
        due("P18 number 0", Make.read(x, "tap 30"), 0);
        due("P18 the tape is empty then", x.count(7), 0);
        due("P18 with a FAULT", Make.read(x, "tap 30;"), -1 - 7);
        due("P18 the tape is empty then", x.count(7), 0);
        due("P18 no PROGRAM more", x.count(6), 1);
        due("P18 a FAULT is no finding", x.status(-1), 0);
        due("P18 number 1", Make.read(x, "wait 5"), 1);
        due("P18 nothing is played", x.count(0), 10);
    }

    private static void sixPrograms() {
        LeakCups x = new LeakCups();
        for (int i = 0; i < 6; i++) {
            due("P18 number", Make.read(x, "tap " + i), i);
        }
        due("P18 no more", Make.read(x, "tap 7"), FULL);
        due("P18 THE TAPE stays", x.count(7), 5);
        due("P18 FULL ahead of the FAULT", Make.read(x, ";;"), FULL);
        due("P18 THE TAPE stays", x.count(7), 7);
        for (int i = 0; i < 6; i++) {
            x.play(i);
            due("P18 PROGRAM " + i, x.count(0), i);
        }
    }

    private static void faults() {
        fault("", 0);
        fault("   ", 3);
        fault(";", 0);
        fault("-", 0);
        fault("5", 0);
        fault("cups 1", 0);
        fault("cu 1", 0);
        fault("xup 1", 0);
        fault("cux 1", 0);
        fault("Cup 1", 0);
        fault("cup", 3);
        fault("cup ", 4);
        fault("cup 12", 4);
        fault("cup -1", 4);
        fault("cup 1 1", 6);
        fault("cup 1 tap 1", 6);
        fault("cup 1-", 5);
        fault("cup 1,tap 1", 5);
        fault("cup 1;", 6);
        fault("cup 1; ", 7);
        fault("cup 1;;tap 1", 6);
        fault("cup 1; 7", 7);
        fault("cup tap", 4);
        fault("cup ;", 4);
        fault(" cup\t1", 4);
        fault("tap 100", 4);
        fault("tap 99999999999999999999", 4);
        fault("tap 4294967297", 4);
        fault("leak 100", 5);
        fault("rub 100", 4);
        fault("heavy 0", 6);
        fault("heavy 100", 6);
        fault("touch 201", 6);
        fault("touch - 201", 8);
        fault("touch --1", 7);
        fault("touch -", 7);
        fault("touch - ;", 8);
        fault("touch", 5);
        fault("tap - 1", 4);
        fault("wait -1", 5);
        fault("wait 0", 5);
        fault("wait 51", 5);
        fault("wait 1\u00e9", 6);
        fault("wait 1\u0000", 6);
        for (String word : new String[] {"sealed", "cracked", "deep", "small", "tipping", "roped"}) {
            fault(word + " 12", word.length() + 1);
        }
        String twelve = "tap 1;tap 1;tap 1;tap 1;tap 1;tap 1;tap 1;tap 1;tap 1;tap 1;tap 1;tap 1";
        fault(twelve + ";", 72);
        fault(twelve + "; tap 1", 73);
        fault(twelve + "; no", 73);
        fault(twelve + "tap", 71);
    }

    /** What stands next to letters, digits, blanks and SIGNS among the bytes begins no TOKEN and ends one. */
    private static void bytesNextToTokens() {
        String others = "`{/:!,.<\u001f\u0000\t\n@AZ\u007f\u00a0\u00ad\u00b1\u00bb\u00e3\u00ff";
        for (int i = 0; i < others.length(); i++) {
            char other = others.charAt(i);
            fault(other + "cup 1", 0);
            fault("cup" + other + "1", 3);
            fault("cup " + other, 4);
            fault("cup 1" + other, 5);
            fault("cup 1" + other + "tap 1", 5);
            fault("touch " + other + "1", 6);
        }
        fault("touch ;5", 6);
        fault("touch ; 5", 6);
        fault("touch -;5", 7);
        // NUMBERS that are a SIGN's byte
        fault("tap 1 59 tap 2", 6);
        fault("touch 45 5", 9);
        fault("cup 1-tap 1", 5);
        fault("cup 1;-tap 1", 6);
        fault("cup 1tap 1", 5);
        fault("c up 1", 0);
        fault("cupcup 1", 0);
        fault("waits 1", 0);
        fault("zap 1", 0);
        fault("wait 1 0", 7);
        fault("wait 999", 5);
        fault("wait 1000", 5);
    }

    private static void thirteenthDeed() {
        String twelve = "tap 1" + ";tap 1".repeat(11);
        fault(twelve + ";;", 72);
        fault(twelve + ";-", 72);
        fault(twelve + ";1", 72);
        fault(twelve + "  ;  5", 76);
        fault(twelve + ";   ", 75);
        fault(twelve + ";cup 12", 72);
        fault(twelve + "-", 71);
        fault(twelve + " 1", 72);
        fault("cup 12" + twelve.substring(5) + ";tap 1", 4);
        fault(twelve.substring(6) + ";tap 100;tap 1", 70);
        well(twelve + "   ", 12, 0);
    }

    /** Each DEED with the least and the greatest of its NUMBERS, and with what is next to them. */
    private static void everyWord() {
        String[] words = {"cup", "sealed", "cracked", "deep", "small", "tipping", "roped"};
        for (int kind = 0; kind < words.length; kind++) {
            atItsEdges(words[kind], 0, 11);
            LeakCups x = new LeakCups();
            Make.read(x, words[kind] + " 0;" + words[kind] + " 11");
            x.kind(0, 6 - kind);
            x.kind(11, 6 - kind);
            x.play(0);
            due("P20 " + words[kind] + " 0", x.cupOf(0, 0), kind);
            due("P20 " + words[kind] + " 11", x.cupOf(11, 0), kind);
        }
        String[] settings = {"tap", "leak", "rub", "heavy"};
        for (int what = 0; what < settings.length; what++) {
            int least = what == 3 ? 1 : 0;
            atItsEdges(settings[what], least, 99);
            played(settings[what] + " " + least, what, least);
            played(settings[what] + " 99", what, 99);
        }
        atItsEdges("touch", 0, 200);
        atItsEdges("touch -", 0, 200);
        atItsEdges("wait", 1, 50);
        moved("touch 200", 200, 0);
        moved("touch -200", -200, 0);
        moved("touch - 0", 0, 0);
        moved("wait 1", 0, 1);
        moved("wait 50", 0, 50);
    }

    private static void atItsEdges(String word, int least, int most) {
        int place = word.length() + 1;
        well(word + " " + least, 1, word.equals("wait") ? least : 0);
        well(word + " " + most, 1, word.equals("wait") ? most : 0);
        fault(word + " " + (most + 1), place);
        if (least > 0) {
            fault(word + " " + (least - 1), place);
        }
        fault(word + " 999", place);
        fault(word + " 1000", place);
        fault(word, place - 1);
        fault(word + " ", place);
        fault(word + " ;", place);
        fault(word + " tap 1", place);
        fault(word + " " + least + " " + least, place + 2);
        if (!word.equals("touch")) {
            fault(word + " -" + least, place);
        }
    }

    private static void played(String text, int what, int want) {
        LeakCups x = new LeakCups();
        Make.read(x, text);
        x.play(0);
        due("P20 " + text, x.count(what), want);
    }

    private static void moved(String text, int pace, int ticks) {
        LeakCups x = new LeakCups();
        Make.read(x, text);
        due("P20 " + text, x.play(0), pace);
        due("P20 TICKS of " + text, x.now(6), ticks);
    }

    private static void fault(String text, int place) {
        LeakCups x = new LeakCups();
        due("P18 FAULT of '" + text + "'", Make.read(x, text), -1 - place);
        due("P18 no PROGRAM of '" + text + "'", x.count(6), 0);
        due("P18 no finding of '" + text + "'", x.status(-1), 0);
        due("P18 THE TAPE behind '" + text + "'", x.count(7), 0);
    }

    private static void wellFormed() {
        well("cup0", 1, 0);
        well("  cup  11  ", 1, 0);
        well("cup 0;sealed 0;cracked 0;deep 0;small 0;tipping 0;roped 0", 7, 0);
        well("sealed 11;cracked 11;deep 11;small 11;tipping 11;roped 11", 6, 0);
        well("cup 0007;rub 000", 2, 0);
        well("sealed 0;cracked 1;deep 2;small 3;tipping 4;roped 11", 6, 0);
        well("tap 0;tap 99;leak 0;leak 99;rub 0;rub 99;heavy 1;heavy 99", 8, 0);
        well("touch 0;touch 200;touch-200;touch - 0", 4, 0);
        well("wait 1;tap 1;wait50;wait 9", 4, 60);
        well("tap 1;tap 1;tap 1;tap 1;tap 1;tap 1;tap 1;tap 1;tap 1;tap 1;tap 1;tap 1", 12, 0);
        well("wait 50;wait 50;wait 50;wait 50;wait 50;wait 50;wait 50;wait 50;wait 50;wait 50;wait 50;wait 50", 12, 600);
    }

    private static void well(String text, int deeds, int ticks) {
        LeakCups x = new LeakCups();
        due("P18 '" + text + "'", Make.read(x, text), 0);
        due("P19 DEEDS of '" + text + "'", x.programOf(0, 0), deeds);
        due("P19 TICKS of '" + text + "'", x.programOf(0, 1), ticks);
    }

    private static void wholeTape() {
        StringBuilder text = new StringBuilder("wait 5");
        while (text.length() < 99) {
            text.append(' ');
        }
        fault(text + ";", 100);
        well(text + " ", 1, 5);
        text.setCharAt(98, '7');
        fault(text + "7", 98);
        fault("tap " + "9".repeat(96), 4);
        well("tap " + "0".repeat(95) + "9", 1, 0);
        fault("w".repeat(100), 0);
    }

    /** What an earlier TEXT left behind the end of THE TAPE is not read. */
    private static void shorterBehindLonger() {
        LeakCups x = new LeakCups();
        due("P18 longer", Make.read(x, "cup 5;tap 77"), 0);
        due("P18 no number of its own", Make.read(x, "cup "), -1 - 4);
        due("P18 no WORD of its own", Make.read(x, "cup 5;"), -1 - 6);
        due("P18 its own number", Make.read(x, "cup 5;tap 7"), 1);
        x.play(1);
        due("P18 its own number", x.count(0), 7);
    }

    private static void programOf() {
        LeakCups x = new LeakCups();
        due("P19 none yet", x.programOf(0, 0), BEYOND);
        Make.read(x, "wait 5;wait 6");
        Make.read(x, "tap 50");
        Make.read(x, "wait 9;");
        due("P19 DEEDS of the second", x.programOf(1, 0), 1);
        due("P19 TICKS of the second", x.programOf(1, 1), 0);
        due("P19 the first stays", x.programOf(0, 1), 11);
        due("P19 one with a FAULT is none", x.programOf(2, 0), BEYOND);
        due("P19 no such program", x.programOf(-1, 0), BEYOND);
        due("P19 no such what", x.programOf(0, 2), BEYOND);
        due("P19 no such what", x.programOf(0, -1), BEYOND);
        due("P19 nothing is played", x.now(6), 0);
        Make.read(x, "tap 1;tap 2;tap 3");
        due("P19 nothing of one with a FAULT is left", x.programOf(2, 1), 0);
        due("P19 its DEEDS", x.programOf(2, 0), 3);
    }

    private static void play() {
        LeakCups x = new LeakCups();
        due("P20 none yet", x.play(0), BEYOND);
        Make.read(x, "sealed 1;cracked 2;deep 3;small 4;tipping 5;roped 6;tap 11;leak 12;rub 13;heavy 14;cup 8");
        x.kind(8, 3);
        x.touch(33);
        due("P20 PACE", x.play(0), 33);
        for (int cup = 0; cup < 7; cup++) {
            due("P20 KIND of " + cup, x.cupOf(cup, 0), cup);
        }
        due("P20 CUP again", x.cupOf(8, 0), 0);
        for (int what = 0; what < 4; what++) {
            due("P20 what is set " + what, x.count(what), 11 + what);
        }
        due("P20 no TICK", x.now(6), 0);
        due("P20 no such program", x.play(1), BEYOND);
        due("P20 no such program", x.play(-1), BEYOND);
    }

    private static void playTicksAndTouches() {
        LeakCups x = new LeakCups();
        Make.read(x, "tap 77;rub 2;touch 150;wait 50;touch - 200;heavy 3;wait 7;touch 20");
        Model model = new Model();
        for (int again = 0; again < 6; again++) {
            int got = x.play(0);
            modelled(model);
            due("P20 PACE", got, model.pace);
            model.compare(CHECK, x, "P20 played " + again);
        }
        due("P20 TICKS", x.now(6), 6 * 57);
    }

    private static void modelled(Model model) {
        model.tap = 77;
        model.rub = 2;
        model.touch(150);
        for (int t = 0; t < 50; t++) {
            model.tick();
        }
        model.touch(-200);
        model.heavy = 3;
        for (int t = 0; t < 7; t++) {
            model.tick();
        }
        model.touch(20);
    }
}
