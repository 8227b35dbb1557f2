/** Promises 14 (state), 15 (way) and 16 (loops). */
public final class StateTest {
    private static final int NONE = JugglingHall.NONE;

    private static Check check;

    public static void main(String[] args) {
        check = new Check("StateTest");
        states();
        ways();
        shortestAndFirst();
        noWays();
        loops();
        wrongInputs();
        check.finish();
    }

    private static void states() {
        JugglingHall hall = new JugglingHall(1);
        check.taken(hall, "row A=531;row B=9;row C=900000000;row D=0;row E=432;row F=[43]1;row G=[30];row H=51;");
        int[] due = {7, 19, 13};
        for (int beat = 0; beat < 3; beat++) {
            check.same("state of 531 on " + beat, hall.state(0, beat), due[beat]);
        }
        check.same("state of 9", hall.state(1, 0), 511);
        check.same("state of 900000000", hall.state(2, 0), 1);
        for (int beat = 1; beat < 9; beat++) {
            check.same("state of 900000000 on " + beat, hall.state(2, beat), 1 << 9 - beat);
        }
        check.same("state of 0", hall.state(3, 0), 0);
        check.same("state of what isn't good", hall.state(4, 0), NONE);
        check.same("state of what isn't plain", hall.state(5, 0), NONE);
        check.same("state of [30]", hall.state(6, 0), 7);
        check.same("state of 51 on 0", hall.state(7, 0), 11);
        check.same("state of 51 on 1", hall.state(7, 1), 21);
        JugglingHall two = new JugglingHall(2);
        check.taken(two, "row A=<3|3>;");
        check.same("state for two", two.state(0, 0), NONE);
    }

    private static String way(JugglingHall hall, int from, int to) {
        StringBuilder all = new StringBuilder();
        for (int i = 0; i < hall.way(from, to, NONE); i++) {
            all.append(hall.way(from, to, i));
        }
        return all.toString();
    }

    private static void ways() {
        JugglingHall hall = new JugglingHall(2);
        check.same("way(7, 7, NONE)", hall.way(7, 7, NONE), 0);
        check.same("way(0, 0, NONE)", hall.way(0, 0, NONE), 0);
        check.same("way(511, 511, NONE)", hall.way(511, 511, NONE), 0);
        check.sameText("way(7, 11)", way(hall, 7, 11), "4");
        check.sameText("way(11, 7)", way(hall, 11, 7), "2");
        check.sameText("way(1, 256)", way(hall, 1, 256), "9");
        check.sameText("way(256, 1)", way(hall, 256, 1), "00000000");
        check.sameText("way(1, 1 << 3)", way(hall, 1, 8), "4");
        check.sameText("way(255, 510)", way(hall, 255, 510), "99999999");
        check.sameText("way(510, 255)", way(hall, 510, 255), "0");
    }

    /** All ways of one length, tried from the lowest heights on, must begin with the one that is answered. */
    private static void shortestAndFirst() {
        JugglingHall hall = new JugglingHall(1);
        Model model = new Model(1);
        for (int from = 0; from < 512; from += 3) {
            for (int to = from % 7; to < 512; to += 7) {
                int steps = model.way(from, to, NONE);
                check.same("way(" + from + ", " + to + ", NONE)", hall.way(from, to, NONE), steps);
                for (int i = 0; i <= steps; i++) {
                    check.same("way(" + from + ", " + to + ", " + i + ")", hall.way(from, to, i), model.way(from, to, i));
                }
            }
        }
    }

    private static void noWays() {
        JugglingHall hall = new JugglingHall(1);
        int[][] others = {{7, 3, NONE}, {0, 1, NONE}, {-1, 0, NONE}, {0, -1, NONE}, {512, 1, NONE}, {1, 512, NONE},
            {7, 7, 0}, {7, 11, 1}, {7, 11, -2}, {7, 3, 0}, {Integer.MIN_VALUE, 0, NONE}, {0, Integer.MAX_VALUE, NONE},
            {7, 11, Integer.MAX_VALUE}, {7, 11, Integer.MIN_VALUE}, {519, 7, NONE}};
        for (int[] a : others) {
            check.same("way(" + a[0] + ", " + a[1] + ", " + a[2] + ")", hall.way(a[0], a[1], a[2]), NONE);
        }
    }

    private static void loops() {
        JugglingHall hall = new JugglingHall(3);
        check.same("loops(0, 5, 1)", hall.loops(0, 5, 1), 1);
        check.same("loops(0, 5, 2)", hall.loops(0, 5, 2), 0);
        check.same("loops(5, 5, 1)", hall.loops(5, 5, 1), 1);
        check.same("loops(5, 5, 2)", hall.loops(5, 5, 2), 0);
        check.same("loops(5, 4, 1)", hall.loops(5, 4, 1), 0);
        check.same("loops(3, 3, 1)", hall.loops(3, 3, 1), 1);
        // one ball: 1, 20, 300, .. up to H, each alone
        for (int steps = 1; steps <= 5; steps++) {
            check.same("loops(1, 5, " + steps + ")", hall.loops(1, 5, steps), 1);
        }
        check.same("loops(1, 5, 6)", hall.loops(1, 5, 6), 0);
        // 3 balls, heights to 5: 3; 42, 51; 441, 423, 531, 522; ..
        check.same("loops(3, 5, 1)", hall.loops(3, 5, 1), 1);
        check.same("loops(3, 5, 2)", hall.loops(3, 5, 2), 2);
        Model model = new Model(1);
        for (int bits = -1; bits <= 6; bits++) {
            for (int high = 0; high <= 6; high++) {
                for (int steps = 0; steps <= 11; steps++) {
                    String call = "loops(" + bits + ", " + high + ", " + steps + ")";
                    check.same(call, hall.loops(bits, high, steps), model.loops(bits, high, steps));
                }
            }
        }
    }

    private static void wrongInputs() {
        JugglingHall hall = new JugglingHall(1);
        check.taken(hall, "row A=531;");
        int[][] states = {{-1, 0}, {1, 0}, {8, 0}, {0, -1}, {0, 3}, {0, Integer.MAX_VALUE}, {0, Integer.MIN_VALUE}};
        for (int[] a : states) {
            check.same("state of others", hall.state(a[0], a[1]), NONE);
        }
        int[][] loops = {{-1, 5, 1}, {6, 5, 1}, {1, 0, 1}, {1, 6, 1}, {1, 5, 0}, {1, 5, 11},
            {Integer.MAX_VALUE, 5, 1}, {1, Integer.MIN_VALUE, 1}, {1, 5, Integer.MAX_VALUE}};
        for (int[] a : loops) {
            check.same("loops of others", hall.loops(a[0], a[1], a[2]), NONE);
        }
    }
}
