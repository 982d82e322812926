import java.util.ArrayList;
import java.util.List;

/**
 * The wheel told a second time, from the document's words alone and in another shape than in LeakCups: PLACES are
 * walked instead of CUPS where that does, and TURNS are found afterwards from the PACES that are noted.
 */
final class Model {
    static final double[] HANDS = {0, .5, .87, 1, .87, .5, 0, -.5, -.87, -1, -.87, -.5};

    int tap = 10;
    int leak = 5;
    int rub = 10;
    int heavy = 10;
    int pace;
    int angle;
    int way;
    int ticks;
    int spilt;
    int lost;
    final int[] kind = new int[12];
    final int[] water = new int[12];
    final List<Integer> paces = new ArrayList<>();
    final List<Integer> turnTicks = new ArrayList<>();
    final List<Integer> turnPeaks = new ArrayList<>();

    /** Brings the model and an object alike from their beginnings to some state that the seed makes. */
    void disturb(LeakCups x, int seed) {
        Draws draws = new Draws(seed);
        tap = draws.upTo(99);
        leak = draws.upTo(seed % 2 == 0 ? 99 : 15);
        rub = draws.upTo(seed % 3 == 0 ? 99 : 6);
        heavy = 1 + draws.upTo(seed % 2 == 0 ? 98 : 10);
        x.set(0, tap);
        x.set(1, leak);
        x.set(2, rub);
        x.set(3, heavy);
        for (int cup = 0; cup < 12; cup++) {
            int comes = draws.upTo(999);
            if (comes > 0 && draws.upTo(2) > 0) {
                x.fill(cup, comes);
                water[cup] = comes;
            }
            if (seed % 4 != 0) {
                kind[cup] = draws.upTo(6);
                x.kind(cup, kind[cup]);
            }
        }
        angle = draws.upTo(1199);
        x.stop(angle);
        touch(draws.upTo(400) - 200);
        x.touch(pace);
    }

    void touch(int by) {
        pace = hold(pace + by);
        way = pace > 0 ? 1 : pace < 0 ? -1 : way;
    }

    int cupAt(int place) {
        return ((place - angle / 100) % 12 + 12) % 12;
    }

    int room(int cup) {
        return kind[cup] == 4 || kind[cup] == 6 ? 200 : kind[cup] == 5 ? 500 : 999;
    }

    int leaks(int cup) {
        int w = water[cup];
        int simple = (int) ((long) w * leak / 100);
        if (kind[cup] == 0) {
            return simple;
        }
        if (kind[cup] == 1) {
            return 0;
        }
        if (kind[cup] == 5 && cup == cupAt(6)) {
            return w;
        }
        if (kind[cup] == 3 || kind[cup] == 5) {
            return w <= 100 ? 0 : (w - 100) * leak / 100;
        }
        return simple + simple > w ? w : simple + simple;
    }

    int torque() {
        double sum = 0;
        for (int place = 0; place < 12; place++) {
            sum += water[cupAt(place)] * HANDS[place];
        }
        return (int) Math.round(sum * 100);
    }

    int waterOfAll() {
        int sum = 0;
        for (int w : water) {
            sum += w;
        }
        return sum;
    }

    void tick() {
        for (int drop = 0; drop < tap; drop++) {
            if (water[cupAt(0)] < room(cupAt(0))) {
                water[cupAt(0)]++;
            } else {
                spilt++;
            }
        }
        for (int cup = 0; cup < 12; cup++) {
            int out = leaks(cup);
            water[cup] -= out;
            lost += out;
            int next = cup == 11 ? 0 : cup + 1;
            if (kind[cup] == 6 && water[cup] > water[next] && room(next) > water[next]) {
                water[cup]--;
                water[next]++;
            }
        }
        pace += torque() / (100 * heavy);
        pace -= pace * rub / 100;
        pace = hold(pace);
        angle = ((angle + pace) % 1200 + 1200) % 1200;
        ticks++;
        if (pace * way < 0) {
            noteTurn();
        }
        paces.add(pace);
        way = pace > 0 ? 1 : pace < 0 ? -1 : way;
    }

    private void noteTurn() {
        int from = turnTicks.isEmpty() ? 1 : turnTicks.get(turnTicks.size() - 1);
        int peak = 0;
        for (int t = from; t < ticks; t++) {
            peak = Math.max(peak, Math.abs(paces.get(t - 1)));
        }
        turnTicks.add(ticks);
        turnPeaks.add(peak);
    }

    private static int hold(int v) {
        return v > 600 ? 600 : v < -600 ? -600 : v;
    }

    void compare(Check check, LeakCups x, String where) {
        check.due(where + " PACE", x.now(0), pace);
        check.due(where + " ANGLE", x.now(1), angle);
        check.due(where + " WAY", x.now(2), way);
        check.due(where + " WATER", x.now(3), waterOfAll());
        check.due(where + " SPILT", x.now(4), spilt);
        check.due(where + " LOST", x.now(5), lost);
        check.due(where + " TICKS", x.now(6), ticks);
        check.due(where + " at PLACE 0", x.now(7), cupAt(0));
        check.due(where + " torque", x.torque(), torque());
        for (int cup = 0; cup < 12; cup++) {
            check.due(where + " WATER of " + cup, x.cupOf(cup, 1), water[cup]);
            check.due(where + " leak of " + cup, x.cupOf(cup, 4), leaks(cup));
        }
        check.due(where + " TURNS", x.count(5), turnTicks.size());
        check.due(where + " THE LOG", x.count(4), Math.min(turnTicks.size(), 40));
        for (int i = 0; i < x.count(4); i++) {
            check.due(where + " TICK of TURN " + i, x.turn(i, 0), turnTicks.get(i));
            check.due(where + " PEAK of TURN " + i, x.turn(i, 1), turnPeaks.get(i));
        }
    }

    /** Numbers that look drawn, the same each time. */
    static final class Draws {
        private long state;

        Draws(long seed) {
            state = seed * 7919 + 17;
        }

        int upTo(int most) {
            state = (state * 6364136223846793005L + 1442695040888963407L);
            return (int) Long.remainderUnsigned(state >>> 20, most + 1L);
        }
    }
}
