/** A wheel of twelve leaking cups. ../shared/DOC.md says what it does; the names here are its words. */
public final class LeakCups {
    private static final int BEYOND = -1000001;
    private static final int FULL = BEYOND - 1;
    private static final int KIND = BEYOND - 2;
    private static final int NONE = BEYOND - 3;
    private static final int MISSING = BEYOND - 5;
    private static final int SIZE = BEYOND - 6;
    private static final int FINDINGS = 7;

    private static final int CUPS = 12;
    private static final int KINDS = 7;
    private static final int PROGRAMS = 6;
    private static final int DEEDS = 12;
    private static final int SPOTS = 10;
    private static final int SHEETS = 4;
    private static final int TOUCH_MOST = 200;
    private static final int AHEAD_MOST = 400;
    private static final int RULE_MOST = 200;
    private static final int HOLDS_MOST = 50;
    private static final int NOTHING = -1;

    private final State state = new State();
    private final State kept = new State();
    private boolean isKept;
    private final TextReader reader = new TextReader();
    private final Tape tape = reader.tape;
    private final Sheet[] sheets = new Sheet[SHEETS];
    private final Wheel run = new Wheel();
    private final Wheel otherRun = new Wheel();
    private final ShortRule rule = new ShortRule();
    private final int[] findings = new int[FINDINGS];

    public LeakCups() {
        for (int s = 0; s < SHEETS; s++) {
            sheets[s] = new Sheet();
        }
    }

    // ---- the wheel

    public int set(int what, int v) {
        if (!within(what, 0, Wheel.SETTINGS - 1)) {
            return finding(BEYOND);
        }
        int least = what == Wheel.HEAVY ? 1 : 0;
        if (!within(v, least, 99)) {
            return finding(BEYOND);
        }
        int was = state.wheel.settings[what];
        state.wheel.settings[what] = v;
        return was;
    }

    public int kind(int cup, int kind) {
        if (!isCup(cup) || !isKind(kind)) {
            return finding(BEYOND);
        }
        int was = state.wheel.kinds[cup];
        state.wheel.kinds[cup] = kind;
        return was;
    }

    public int cupOf(int cup, int what) {
        if (!isCup(cup)) {
            return finding(BEYOND);
        }
        switch (what) {
            case 0: return state.wheel.kinds[cup];
            case 1: return state.wheel.water[cup];
            case 2: return state.wheel.placeOf(cup);
            case 3: return state.wheel.roomOf(cup);
            case 4: return state.wheel.leakOf(cup);
            default: return finding(BEYOND);
        }
    }

    public int fill(int cup, int n) {
        if (!isCup(cup) || !within(n, 1, 999)) {
            return finding(BEYOND);
        }
        Wheel wheel = state.wheel;
        if (wheel.roomOf(cup) - wheel.water[cup] < n) {
            return finding(FULL);
        }
        wheel.water[cup] += n;
        return wheel.water[cup];
    }

    public int empty(int cup) {
        if (!isCup(cup)) {
            return finding(BEYOND);
        }
        int had = state.wheel.water[cup];
        state.wheel.water[cup] = 0;
        return had;
    }

    public int touch(int by) {
        if (!isTouch(by)) {
            return finding(BEYOND);
        }
        state.wheel.nudge(by);
        return state.wheel.pace;
    }

    public int stop(int angle) {
        if (!within(angle, 0, Wheel.ROUND - 1)) {
            return finding(BEYOND);
        }
        int was = state.wheel.pace;
        state.wheel.pace = 0;
        state.wheel.angle = angle;
        return was;
    }

    public int tick(int n) {
        if (!within(n, 1, 100)) {
            return finding(BEYOND);
        }
        state.wheel.steps(n);
        return state.wheel.pace;
    }

    public int now(int what) {
        Wheel wheel = state.wheel;
        switch (what) {
            case 0: return wheel.pace;
            case 1: return wheel.angle;
            case 2: return wheel.way;
            case 3: return wheel.waterOfAll();
            case 4: return wheel.spilt;
            case 5: return wheel.lost;
            case 6: return wheel.ticks;
            case 7: return wheel.topCup();
            default: return finding(BEYOND);
        }
    }

    public int torque() {
        return state.wheel.pull();
    }

    // ---- turns

    public int turn(int i, int what) {
        if (!within(i, 0, state.wheel.logged() - 1)) {
            return finding(BEYOND);
        }
        switch (what) {
            case 0: return state.wheel.turnTicks[i];
            case 1: return state.wheel.turnPeaks[i];
            default: return finding(BEYOND);
        }
    }

    public int nextPeak(int v) {
        if (!within(v, 0, Wheel.PACE_MOST)) {
            return finding(BEYOND);
        }
        int logged = state.wheel.logged();
        if (logged < 2) {
            return finding(NONE);
        }
        int[] peaks = state.wheel.turnPeaks;
        int nearest = 0;
        for (int i = 1; i + 1 < logged; i++) {
            if (Math.abs(peaks[i] - v) < Math.abs(peaks[nearest] - v)) {
                nearest = i;
            }
        }
        return peaks[nearest + 1];
    }

    public int rising() {
        int[] peaks = state.wheel.turnPeaks;
        int found = 0;
        for (int i = 1; i < state.wheel.logged(); i++) {
            if (peaks[i] > peaks[i - 1]) {
                found++;
            }
        }
        return found;
    }

    public int quickest() {
        int logged = state.wheel.logged();
        if (logged < 2) {
            return finding(NONE);
        }
        int[] ticks = state.wheel.turnTicks;
        int least = ticks[1] - ticks[0];
        for (int i = 2; i < logged; i++) {
            least = Math.min(least, ticks[i] - ticks[i - 1]);
        }
        return least;
    }

    // ---- programs

    public int feed(int bytes, int n) {
        if (!within(n, 1, 4)) {
            return finding(BEYOND);
        }
        if (tape.size + n > Tape.MOST) {
            return finding(FULL);
        }
        for (int i = n - 1; i >= 0; i--) {
            tape.append(bytes >> (8 * i));
        }
        return tape.size;
    }

    public int wipe() {
        int had = tape.size;
        tape.size = 0;
        return had;
    }

    public int program() {
        if (!within(state.programCount, 0, PROGRAMS - 1)) {
            return finding(FULL);
        }
        // a row that isn't counted yet shows nowhere: a TEXT with a FAULT may leave its begin there
        int fault = reader.read(state.programs[state.programCount]);
        tape.size = 0;
        if (fault != TextReader.NO_FAULT) {
            return -1 - fault;
        }
        state.programCount++;
        return state.programCount - 1;
    }

    public int programOf(int program, int what) {
        if (!isProgram(program)) {
            return finding(BEYOND);
        }
        switch (what) {
            case 0: return state.programs[program].size;
            case 1: return state.programs[program].ticksOfAll();
            default: return finding(BEYOND);
        }
    }

    public int play(int program) {
        if (!isProgram(program)) {
            return finding(BEYOND);
        }
        Program played = state.programs[program];
        for (int i = 0; i < played.size; i++) {
            played.doDeed(i, state.wheel);
        }
        return state.wheel.pace;
    }

    // ---- runs ahead

    public int ahead(int n, int what) {
        if (!isAhead(n) || !within(what, 0, 3)) {
            return finding(BEYOND);
        }
        run.become(state.wheel);
        run.steps(n);
        switch (what) {
            case 0: return run.pace;
            case 1: return run.angle;
            case 2: return run.waterOfAll();
            default: return run.turns - state.wheel.turns;
        }
    }

    public int apart(int by, int n) {
        if (!isTouch(by) || !isAhead(n)) {
            return finding(BEYOND);
        }
        beginTwoRuns(by);
        run.steps(n);
        otherRun.steps(n);
        return differenceOfRuns();
    }

    public int parts(int by, int most) {
        if (!isTouch(by) || !within(most, 1, 2 * Wheel.PACE_MOST)) {
            return finding(BEYOND);
        }
        beginTwoRuns(by);
        for (int t = 0; t <= AHEAD_MOST; t++) {
            if (differenceOfRuns() >= most) {
                return t;
            }
            run.step();
            otherRun.step();
        }
        return finding(NONE);
    }

    public int going(int n) {
        if (!isLongRun(n)) {
            return finding(BEYOND);
        }
        run.become(state.wheel);
        return run.goes(n);
    }

    public int tapFor(int going, int n) {
        if (!within(going, 0, 3) || !isLongRun(n)) {
            return finding(BEYOND);
        }
        for (int tap = 0; tap <= 99; tap++) {
            run.become(state.wheel);
            run.settings[Wheel.TAP] = tap;
            if (run.goes(n) == going) {
                return tap;
            }
        }
        return finding(NONE);
    }

    public int bounds(int n, int what) {
        if (!isAhead(n) || !within(what, 0, 1)) {
            return finding(BEYOND);
        }
        run.become(state.wheel);
        int least = run.pace;
        int greatest = run.pace;
        for (int t = 1; t <= n; t++) {
            run.step();
            least = Math.min(least, run.pace);
            greatest = Math.max(greatest, run.pace);
        }
        return what == 0 ? least : greatest;
    }

    public int often(int n) {
        if (!within(n, 1, AHEAD_MOST)) {
            return finding(BEYOND);
        }
        run.become(state.wheel);
        int above = 0;
        for (int t = 1; t <= n; t++) {
            run.step();
            if (run.pace > 0) {
                above++;
            }
        }
        return above;
    }

    public int holds(int n) {
        if (!within(n, 1, AHEAD_MOST)) {
            return finding(BEYOND);
        }
        for (int by = 0; by <= HOLDS_MOST; by++) {
            if (isHeldBy(by, n)) {
                return by;
            }
            if (by != 0 && isHeldBy(-by, n)) {
                return -by;
            }
        }
        return finding(NONE);
    }

    public int chance(int n, int t) {
        if (!within(n, 1, 20) || !within(t, 1, 200)) {
            return finding(BEYOND);
        }
        int above = 0;
        for (int i = 0; i < n; i++) {
            run.become(state.wheel);
            run.nudge(state.draw() % 21 - 10);
            run.steps(t);
            if (run.pace > 0) {
                above++;
            }
        }
        return above;
    }

    public int brief(int x, int y, int n, int what) {
        if (!isRuleBegin(x, y, n) || !within(what, 0, 2)) {
            return finding(BEYOND);
        }
        rule.begin(x, y);
        for (int i = 0; i < n; i++) {
            rule.apply();
        }
        switch (what) {
            case 0: return (int) rule.x;
            case 1: return (int) rule.y;
            default: return (int) rule.z;
        }
    }

    public int flips(int x, int y, int n) {
        if (!isRuleBegin(x, y, n)) {
            return finding(BEYOND);
        }
        rule.begin(x, y);
        int sign = Long.compare(rule.x, 0);
        int changes = 0;
        for (int i = 0; i < n; i++) {
            rule.apply();
            int next = Long.compare(rule.x, 0);
            if (next * sign < 0) {
                changes++;
            }
            if (next != 0) {
                sign = next;
            }
        }
        return changes;
    }

    public int seed(int v) {
        int was = state.z;
        state.z = v;
        return was;
    }

    // ---- spots, sheets

    public int hold(int spot, int cup) {
        if (!isSpot(spot) || (cup != NOTHING && !isCup(cup))) {
            return finding(BEYOND);
        }
        state.spots[spot] = cup;
        return 1;
    }

    public int as(int spot, int kind) {
        if (!isSpot(spot) || !isKind(kind)) {
            return finding(BEYOND);
        }
        int cup = state.spots[spot];
        if (!isCup(cup)) {
            return finding(MISSING);
        }
        if (!state.wheel.isOf(cup, kind)) {
            return finding(KIND);
        }
        return cup;
    }

    public int sheet(int s, int bits, int n) {
        boolean isWidth = bits == 0 || bits == 8 || bits == 16 || bits == 32;
        if (!isSheet(s) || !isWidth) {
            return finding(BEYOND);
        }
        if (n < 0) {
            return finding(SIZE);
        }
        if (n > Sheet.MOST) {
            return finding(BEYOND);
        }
        sheets[s].begin(bits, n);
        return bits == 0 ? 0 : n;
    }

    public int write(int s, int i, int v) {
        if (!isSheet(s)) {
            return finding(BEYOND);
        }
        if (sheets[s].isMissing()) {
            return finding(MISSING);
        }
        if (!within(i, 0, sheets[s].size - 1)) {
            return finding(BEYOND);
        }
        sheets[s].put(i, v);
        return 1;
    }

    public int copy(int s, int from, int t, int to, int n) {
        if (!isSheet(s) || !isSheet(t)) {
            return finding(BEYOND);
        }
        Sheet source = sheets[s];
        Sheet target = sheets[t];
        if (source.isMissing() || target.isMissing()) {
            return finding(MISSING);
        }
        if (source.bits != target.bits) {
            return finding(KIND);
        }
        if (!source.has(from, n) || !target.has(to, n)) {
            return finding(BEYOND);
        }
        System.arraycopy(source.row, from, target.row, to, n);
        return n;
    }

    public int load(int s) {
        if (!isSheet(s)) {
            return finding(BEYOND);
        }
        Sheet sheet = sheets[s];
        if (sheet.isMissing()) {
            return finding(MISSING);
        }
        int came = 0;
        while (came < sheet.size && came < CUPS && within(sheet.row[came], 0, state.wheel.roomOf(came))) {
            state.wheel.water[came] = sheet.row[came];
            came++;
        }
        return came;
    }

    public int judge(int s) {
        if (!isSheet(s)) {
            return finding(BEYOND);
        }
        Sheet sheet = sheets[s];
        if (sheet.isMissing()) {
            return finding(MISSING);
        }
        run.become(state.wheel);
        for (int i = 0; i < sheet.size; i++) {
            run.step();
            if (run.pace != sheet.row[i]) {
                return 1 + i;
            }
        }
        return 0;
    }

    // ---- images

    public int image() {
        kept.become(state);
        isKept = true;
        return 1;
    }

    public int undo() {
        if (!isKept) {
            return finding(NONE);
        }
        state.become(kept);
        return state.wheel.ticks;
    }

    public int tear() {
        int was = isKept ? 1 : 0;
        isKept = false;
        return was;
    }

    public int count(int what) {
        switch (what) {
            case 0: return state.wheel.settings[Wheel.TAP];
            case 1: return state.wheel.settings[Wheel.LEAK];
            case 2: return state.wheel.settings[Wheel.RUB];
            case 3: return state.wheel.settings[Wheel.HEAVY];
            case 4: return state.wheel.logged();
            case 5: return state.wheel.turns;
            case 6: return state.programCount;
            case 7: return tape.size;
            case 8: return state.z;
            default: return finding(BEYOND);
        }
    }

    public int status(int which) {
        if (which == -1) {
            return findingsOfAll();
        }
        if (!within(which, 0, FINDINGS - 1)) {
            return finding(BEYOND);
        }
        return findings[which];
    }

    // ---- helpers of the calls

    private int finding(int found) {
        int which = BEYOND - found;
        if (within(which, 0, FINDINGS - 1)) {
            findings[which]++;
        }
        return found;
    }

    private int findingsOfAll() {
        int sum = 0;
        for (int which = 0; which < FINDINGS; which++) {
            sum += findings[which];
        }
        return sum;
    }

    private void beginTwoRuns(int by) {
        run.become(state.wheel);
        otherRun.become(state.wheel);
        otherRun.nudge(by);
    }

    private int differenceOfRuns() {
        return Math.abs(run.pace - otherRun.pace);
    }

    private boolean isHeldBy(int by, int n) {
        run.become(state.wheel);
        run.nudge(by);
        for (int t = 1; t <= n; t++) {
            run.step();
            if (run.turns != state.wheel.turns) {
                return false;
            }
        }
        return true;
    }

    private boolean isProgram(int program) {
        return within(program, 0, Math.min(state.programCount, PROGRAMS) - 1);
    }

    private static boolean isCup(int cup) {
        return within(cup, 0, CUPS - 1);
    }

    private static boolean isKind(int kind) {
        return within(kind, 0, KINDS - 1);
    }

    private static boolean isSpot(int spot) {
        return within(spot, 0, SPOTS - 1);
    }

    private static boolean isSheet(int s) {
        return within(s, 0, SHEETS - 1);
    }

    private static boolean isTouch(int by) {
        return within(by, -TOUCH_MOST, TOUCH_MOST);
    }

    private static boolean isAhead(int n) {
        return within(n, 0, AHEAD_MOST);
    }

    private static boolean isLongRun(int n) {
        return within(n, 10, AHEAD_MOST);
    }

    private static boolean isRuleBegin(int x, int y, int n) {
        return within(x, -999, 999) && within(y, -999, 999) && within(n, 0, RULE_MOST);
    }

    private static boolean within(int v, int least, int most) {
        return least <= v && v <= most;
    }

    /** All that an image keeps. */
    private static final class State {
        final Wheel wheel = new Wheel();
        final Program[] programs = new Program[PROGRAMS];
        int programCount;
        final int[] spots = new int[SPOTS];
        int z = 1;

        State() {
            for (int i = 0; i < PROGRAMS; i++) {
                programs[i] = new Program();
            }
            for (int spot = 0; spot < SPOTS; spot++) {
                spots[spot] = NOTHING;
            }
        }

        void become(State other) {
            wheel.become(other.wheel);
            for (int i = 0; i < PROGRAMS; i++) {
                programs[i].become(other.programs[i]);
            }
            programCount = other.programCount;
            System.arraycopy(other.spots, 0, spots, 0, SPOTS);
            z = other.z;
        }

        int draw() {
            z = z * 1103515245 + 12345;
            return z >>> 8;
        }
    }

    /** The CUPS on their rim, what is set of them, how it turns, and THE LOG. */
    private static final class Wheel {
        static final int TAP = 0;
        static final int LEAK = 1;
        static final int RUB = 2;
        static final int HEAVY = 3;
        static final int SETTINGS = 4;
        static final int ROUND = 1200;
        static final int PACE_MOST = 600;

        private static final int SEALED = 1;
        private static final int CRACKED = 2;
        private static final int DEEP = 3;
        private static final int SMALL = 4;
        private static final int TIPPING = 5;
        private static final int ROPED = 6;
        private static final int LOG_MOST = 40;
        private static final int LOWEST_PLACE = 6;
        private static final int DEEP_KEEPS = 100;
        private static final int[] KIND_ABOVE = {-1, 0, 0, 0, CRACKED, DEEP, SMALL};
        private static final int[] ROOM = {999, 999, 999, 999, 200, 500, 200};
        private static final int[] LEVER = {0, 50, 87, 100, 87, 50, 0, -50, -87, -100, -87, -50};

        final int[] settings = {10, 5, 10, 10};
        final int[] kinds = new int[CUPS];
        final int[] water = new int[CUPS];
        final int[] turnTicks = new int[LOG_MOST];
        final int[] turnPeaks = new int[LOG_MOST];
        int pace;
        int angle;
        int way;
        int spilt;
        int lost;
        int ticks;
        int turns;
        private int peakSinceTurn;

        void become(Wheel other) {
            System.arraycopy(other.settings, 0, settings, 0, SETTINGS);
            System.arraycopy(other.kinds, 0, kinds, 0, CUPS);
            System.arraycopy(other.water, 0, water, 0, CUPS);
            System.arraycopy(other.turnTicks, 0, turnTicks, 0, LOG_MOST);
            System.arraycopy(other.turnPeaks, 0, turnPeaks, 0, LOG_MOST);
            pace = other.pace;
            angle = other.angle;
            way = other.way;
            spilt = other.spilt;
            lost = other.lost;
            ticks = other.ticks;
            turns = other.turns;
            peakSinceTurn = other.peakSinceTurn;
        }

        int logged() {
            return Math.min(turns, LOG_MOST);
        }

        int placeOf(int cup) {
            return (cup + angle / 100) % CUPS;
        }

        int topCup() {
            return (CUPS - angle / 100) % CUPS;
        }

        int roomOf(int cup) {
            return ROOM[kinds[cup]];
        }

        boolean isOf(int cup, int kind) {
            int above = kinds[cup];
            for (int i = 0; i < KINDS && within(above, 0, KINDS - 1); i++) {
                if (above == kind) {
                    return true;
                }
                above = KIND_ABOVE[above];
            }
            return false;
        }

        int leakOf(int cup) {
            int has = water[cup];
            int asCup = has * settings[LEAK] / 100;
            int asDeep = Math.max(has - DEEP_KEEPS, 0) * settings[LEAK] / 100;
            switch (kinds[cup]) {
                case SEALED: return 0;
                case CRACKED:
                case SMALL:
                case ROPED: return Math.min(2 * asCup, has);
                case DEEP: return asDeep;
                case TIPPING: return placeOf(cup) == LOWEST_PLACE ? has : asDeep;
                default: return asCup;
            }
        }

        int waterOfAll() {
            int sum = 0;
            for (int cup = 0; cup < CUPS; cup++) {
                sum += water[cup];
            }
            return sum;
        }

        int pull() {
            int sum = 0;
            for (int cup = 0; cup < CUPS; cup++) {
                sum += water[cup] * LEVER[placeOf(cup)];
            }
            return sum;
        }

        void nudge(int by) {
            pace = held(pace + by);
            if (pace != 0) {
                way = Integer.compare(pace, 0);
            }
        }

        void steps(int n) {
            for (int t = 0; t < n; t++) {
                step();
            }
        }

        void step() {
            pour();
            for (int cup = 0; cup < CUPS; cup++) {
                drain(cup);
            }
            swing();
            ticks++;
            watchWay();
        }

        /** GOING of n TICKS, which are done here. */
        int goes(int n) {
            int half = n / 2;
            int turnsAtFirst = turns;
            steps(half);
            int turnsAtHalf = turns;
            boolean isStill = true;
            for (int t = half; t < n; t++) {
                step();
                isStill = isStill && pace == 0;
            }
            if (isStill) {
                return 0;
            }
            if (turns == turnsAtFirst) {
                return 1;
            }
            return turns == turnsAtHalf ? 2 : 3;
        }

        private void pour() {
            int cup = topCup();
            int room = Math.max(roomOf(cup) - water[cup], 0);
            int comes = Math.min(settings[TAP], room);
            water[cup] += comes;
            spilt += settings[TAP] - comes;
        }

        private void drain(int cup) {
            int leaks = leakOf(cup);
            water[cup] -= leaks;
            lost += leaks;
            if (kinds[cup] == ROPED) {
                passOn(cup);
            }
        }

        private void passOn(int cup) {
            int next = (cup + 1) % CUPS;
            if (water[cup] > water[next] && water[next] < roomOf(next)) {
                water[cup]--;
                water[next]++;
            }
        }

        private void swing() {
            int weight = 100 * settings[HEAVY];
            if (weight > 0) {
                pace += pull() / weight;
            }
            pace -= pace * settings[RUB] / 100;
            pace = held(pace);
            angle = Math.floorMod(angle + pace, ROUND);
        }

        private void watchWay() {
            int wayNow = Integer.compare(pace, 0);
            if (wayNow * way < 0) {
                logTurn();
                peakSinceTurn = 0;
            }
            peakSinceTurn = Math.max(peakSinceTurn, Math.abs(pace));
            if (wayNow != 0) {
                way = wayNow;
            }
        }

        private void logTurn() {
            if (within(turns, 0, LOG_MOST - 1)) {
                turnTicks[turns] = ticks;
                turnPeaks[turns] = peakSinceTurn;
            }
            turns++;
        }

        private static int held(int pace) {
            return Math.max(-PACE_MOST, Math.min(pace, PACE_MOST));
        }
    }

    /** The DEEDS of one TEXT. A DEED's number: 0 to 6 a KIND, 7 to 10 what is set, 11 touch, 12 wait. */
    private static final class Program {
        static final int TOUCH = 11;
        static final int DEED_WORDS = 13;

        private static final int WAIT = 12;
        private static final int FIRST_SETTING = 7;
        private static final int[] LEAST = {0, 0, 0, 0, 0, 0, 0, 0, 0, 0, 1, 0, 1};
        private static final int[] MOST = {11, 11, 11, 11, 11, 11, 11, 99, 99, 99, 99, 200, 50};

        private final int[] deeds = new int[DEEDS];
        private final int[] numbers = new int[DEEDS];
        int size;

        void become(Program other) {
            System.arraycopy(other.deeds, 0, deeds, 0, DEEDS);
            System.arraycopy(other.numbers, 0, numbers, 0, DEEDS);
            size = other.size;
        }

        void add(int deed, int number) {
            if (within(size, 0, DEEDS - 1)) {
                deeds[size] = deed;
                numbers[size] = number;
                size++;
            }
        }

        int ticksOfAll() {
            int sum = 0;
            for (int i = 0; i < size; i++) {
                if (deeds[i] == WAIT) {
                    sum += numbers[i];
                }
            }
            return sum;
        }

        void doDeed(int i, Wheel wheel) {
            if (!within(i, 0, size - 1)) {
                return;
            }
            int deed = deeds[i];
            int number = numbers[i];
            if (deed < FIRST_SETTING) {
                wheel.kinds[number] = deed;
            } else if (deed < TOUCH) {
                wheel.settings[deed - FIRST_SETTING] = number;
            } else if (deed == TOUCH) {
                wheel.nudge(number);
            } else {
                wheel.steps(number);
            }
        }

        static boolean takes(int deed, int number) {
            return within(number, LEAST[deed], MOST[deed]);
        }

        static String wordOf(int deed) {
            switch (deed) {
                case 0: return "cup";
                case 1: return "sealed";
                case 2: return "cracked";
                case 3: return "deep";
                case 4: return "small";
                case 5: return "tipping";
                case 6: return "roped";
                case 7: return "tap";
                case 8: return "leak";
                case 9: return "rub";
                case 10: return "heavy";
                case TOUCH: return "touch";
                default: return "wait";
            }
        }
    }

    /** THE TAPE: bytes as 0 to 255. */
    private static final class Tape {
        static final int MOST = 100;

        private final int[] bytes = new int[MOST];
        int size;

        void append(int b) {
            if (within(size, 0, MOST - 1)) {
                bytes[size] = b & 255;
                size++;
            }
        }

        /** -1 behind the last one. */
        int byteAt(int i) {
            return i >= 0 && i < size ? bytes[i] : -1;
        }

        boolean isLetter(int i) {
            return within(byteAt(i), 'a', 'z');
        }

        boolean isDigit(int i) {
            return within(byteAt(i), '0', '9');
        }

        boolean isWordAt(int begin, int end, String word) {
            if (end - begin != word.length()) {
                return false;
            }
            for (int i = 0; i < word.length(); i++) {
                if (byteAt(begin + i) != word.charAt(i)) {
                    return false;
                }
            }
            return true;
        }
    }

    /** Holds THE TAPE, and reads it, a TOKEN at a time, as a TEXT. */
    private static final class TextReader {
        static final int NO_FAULT = -1;

        private static final int NUMBER_MOST = 999;
        private static final int WORD = 0;
        private static final int NUMBER = 1;
        private static final int SIGN = 2;
        private static final int OTHER = 3;
        private static final int NO_DEED = -1;

        final Tape tape = new Tape();
        /** What TOKEN stands here (OTHER: none, or the end), and where it begins and ends. */
        private int token;
        private int begin;
        private int end;
        /** A WORD's DEED, a NUMBER's value, a SIGN's byte. */
        private int value;

        /** The TEXT's DEEDS come into a PROGRAM: its FAULT. */
        int read(Program into) {
            end = 0;
            into.size = 0;
            next();
            for (int deeds = 0; deeds < DEEDS; deeds++) {
                if (!readDeed(into)) {
                    return begin;
                }
                if (begin == tape.size) {
                    return NO_FAULT;
                }
                if (!isSign(';')) {
                    return begin;
                }
                next();
            }
            return begin;
        }

        private boolean readDeed(Program into) {
            int deed = value;
            if (token != WORD || deed == NO_DEED) {
                return false;
            }
            next();
            boolean isLess = deed == Program.TOUCH && isSign('-');
            if (isLess) {
                next();
            }
            if (token != NUMBER || !Program.takes(deed, value)) {
                return false;
            }
            into.add(deed, isLess ? -value : value);
            next();
            return true;
        }

        private boolean isSign(char sign) {
            return token == SIGN && value == sign;
        }

        private void next() {
            begin = end;
            while (begin < tape.size && tape.byteAt(begin) == ' ') {
                begin++;
            }
            end = begin;
            if (tape.isLetter(begin)) {
                readWord();
            } else if (tape.isDigit(begin)) {
                readNumber();
            } else {
                readSign();
            }
        }

        private void readWord() {
            while (end < tape.size && tape.isLetter(end)) {
                end++;
            }
            token = WORD;
            value = NO_DEED;
            for (int deed = 0; deed < Program.DEED_WORDS; deed++) {
                if (tape.isWordAt(begin, end, Program.wordOf(deed))) {
                    value = deed;
                }
            }
        }

        private void readNumber() {
            token = NUMBER;
            value = 0;
            while (end < tape.size && tape.isDigit(end)) {
                // held just above what a NUMBER may be, so that many digits can't wrap around
                value = Math.min(value * 10 + tape.byteAt(end) - '0', NUMBER_MOST + 1);
                end++;
            }
        }

        private void readSign() {
            value = tape.byteAt(begin);
            token = value == ';' || value == '-' ? SIGN : OTHER;
            if (token == SIGN) {
                end++;
            }
        }
    }

    /** THE SHORT RULE; long, for a product of two numbers held within 99999 is no int. */
    private static final class ShortRule {
        private static final long HELD = 99999;

        long x;
        long y;
        long z;

        void begin(int xAtFirst, int yAtFirst) {
            x = xAtFirst;
            y = yAtFirst;
            z = 0;
        }

        void apply() {
            long nextX = x + (y - x) / 10;
            long nextY = y + (x * (2800 - z) / 100 - y) / 100;
            long nextZ = z + (x * y / 100 - 8 * z / 3) / 100;
            x = held(nextX);
            y = held(nextY);
            z = held(nextZ);
        }

        private static long held(long v) {
            return Math.max(-HELD, Math.min(v, HELD));
        }
    }

    /** A row of numbers; MISSING while it has no bits. */
    private static final class Sheet {
        static final int MOST = 40;

        final int[] row = new int[MOST];
        int bits;
        int size;

        void begin(int width, int n) {
            bits = width;
            size = width == 0 ? 0 : n;
            for (int i = 0; i < MOST; i++) {
                row[i] = 0;
            }
        }

        boolean isMissing() {
            return bits == 0;
        }

        boolean has(int from, int n) {
            return from >= 0 && n >= 0 && from <= size && n <= size - from;
        }

        void put(int i, int v) {
            if (within(i, 0, size - 1)) {
                row[i] = cut(v);
            }
        }

        private int cut(int v) {
            switch (bits) {
                case 8: return (byte) v;
                case 16: return (short) v;
                default: return v;
            }
        }
    }
}
