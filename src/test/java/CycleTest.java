/** Promises 10 (cycles), 11 (cycle), 12 (cycleOf) and 13 (caught). */
public final class CycleTest {
    private static final int NONE = JugglingHall.NONE;

    private static Check check;

    public static void main(String[] args) {
        check = new Check("CycleTest");
        counts();
        parts();
        whichCycle();
        orderOfCatches();
        sources();
        balls();
        wrongInputs();
        check.finish();
    }

    private static JugglingHall hall(int jugglers, String sequence) {
        JugglingHall hall = new JugglingHall(jugglers);
        check.taken(hall, "row A=" + sequence + ";");
        return hall;
    }

    private static void counts() {
        check.same("cycles of 531", hall(1, "531").cycles(0), 2);
        check.same("cycles of 3", hall(1, "3").cycles(0), 1);
        check.same("cycles of 333", hall(1, "333").cycles(0), 3);
        check.same("cycles of 0", hall(1, "0").cycles(0), 0);
        check.same("cycles of 432", hall(1, "432").cycles(0), NONE);
        check.same("cycles of [33]", hall(1, "[33]").cycles(0), 2);
        check.same("cycles of 54", hall(3, "<[99]|[99]|[99]>*9").cycles(0), 54);
        check.same("cycles of <3p1|3p2|3p0>", hall(3, "<3p1|3p2|3p0>").cycles(0), 1);
    }

    private static void cycle(JugglingHall hall, int cycle, int... due) {
        for (int what = 0; what < 6; what++) {
            check.same("cycle(0, " + cycle + ", " + what + ")", hall.cycle(0, cycle, what), due[what]);
        }
    }

    private static void parts() {
        JugglingHall hall = hall(1, "531");
        cycle(hall, 0, 2, 6, 2, 0, 0, 0);
        cycle(hall, 1, 1, 3, 1, 1, 0, 0);
        hall = hall(2, "<[31]|0>*2");
        cycle(hall, 0, 2, 6, 3, 0, 0, 0);
        cycle(hall, 1, 2, 2, 1, 0, 0, 1);
        hall = hall(2, "<0|3><0|1p0><2p1|0>");
        // 3 on 0 by 1 lands on 0 at 1; 1p0 on 1 by 1 on 2 at 0; 2p1 on 2 by 0 on 1 at 1
        check.same("cycles", hall.cycles(0), 2);
        cycle(hall, 0, 1, 3, 1, 0, 1, 0);
        cycle(hall, 1, 2, 3, 1, 1, 1, 0);
    }

    private static void whichCycle() {
        JugglingHall hall = hall(1, "531");
        int[] due = {0, 1, 0};
        for (int beat = 0; beat < 3; beat++) {
            check.same("cycleOf beat " + beat, hall.cycleOf(0, beat, 0, 0), due[beat]);
            check.same("cycleOf beat " + beat + ", 1", hall.cycleOf(0, beat, 0, 1), NONE);
        }
        hall = hall(1, "50505");
        check.same("cycleOf an empty beat", hall.cycleOf(0, 1, 0, 0), NONE);
        check.same("cycleOf beat 4", hall.cycleOf(0, 4, 0, 0), 2);
    }

    private static void orderOfCatches() {
        // on beat 0 land the 4 of beat 0 and the 1 of beat 1; the 4 is caught for the 4
        JugglingHall hall = hall(1, "[43]1");
        check.same("the greater height first", hall.caught(0, 4, 0, 0, 0), 0);
        check.same("the lower height second", hall.caught(0, 4, 0, 1, 0), 3);
        check.same("number", hall.caught(0, 5, 0, 0, 2), 1);
        // the same row begun with the 1: on beat 1 land the 1 of beat 0 and the 4 of beat 1
        hall = hall(1, "1[43]");
        check.same("the greater height first", hall.caught(0, 5, 0, 0, 0), 1);
        check.same("the lower height second", hall.caught(0, 5, 0, 1, 0), 4);
        check.same("cycles", hall.cycles(0), 2);
        // both land on beat 0 at 1 with height 2: the one from the lower juggler first
        hall = hall(2, "<2p1|[2p1 2p0]>");
        check.same("from the lower juggler first", hall.caught(0, 2, 1, 0, 1), 0);
        check.same("from the higher juggler second", hall.caught(0, 2, 1, 1, 1), 1);
        check.same("its number", hall.caught(0, 2, 1, 1, 2), 1);
        check.same("to the lower juggler is number 0", hall.caught(0, 2, 0, 0, 2), 0);
        // like heights from one juggler: the lower number first
        hall = hall(1, "[22]");
        check.same("number 0 first", hall.caught(0, 2, 0, 0, 2), 0);
        check.same("number 1 second", hall.caught(0, 2, 0, 1, 2), 1);
    }

    private static void caught(JugglingHall hall, int t, int juggler, int k, int... due) {
        for (int what = 0; what < 4; what++) {
            String call = "caught(0, " + t + ", " + juggler + ", " + k + ", " + what + ")";
            check.same(call, hall.caught(0, t, juggler, k, what), due[what]);
        }
    }

    private static void sources() {
        JugglingHall hall = hall(1, "531");
        caught(hall, 0, 0, 0, NONE, NONE, NONE, 0);
        caught(hall, 1, 0, 0, NONE, NONE, NONE, 1);
        caught(hall, 2, 0, 0, NONE, NONE, NONE, 2);
        caught(hall, 3, 0, 0, 2, 0, 0, 2);
        caught(hall, 5, 0, 0, 0, 0, 0, 0);
        caught(hall, 999, 0, 0, 998, 0, 0, 2);
        caught(hall, 998, 0, 0, 993, 0, 0, 2);
        hall = hall(2, "<1p1|1p0>");
        caught(hall, 999, 0, 0, 998, 1, 0, 1);
        caught(hall, 998, 0, 0, 997, 1, 0, 0);
    }

    private static void balls() {
        JugglingHall hall = hall(2, "<9|[1p1 2p1]><0|3p1>");
        check.same("not good", hall.caught(0, 0, 0, 0, 3), NONE);
        hall = hall(2, "<[55]|[55]>");
        // four balls a beat for five beats, numbered by beats, jugglers, numbers
        for (int t = 0; t < 10; t++) {
            for (int throwing = 0; throwing < 4; throwing++) {
                int due = t % 5 * 4 + throwing;
                check.same("ball", hall.caught(0, t, throwing / 2, throwing % 2, 3), due);
            }
        }
        hall = hall(1, "90");
        check.same("not good", hall.good(0, 0), 0);
        hall = hall(1, "900000000");
        caught(hall, 0, 0, 0, NONE, NONE, NONE, 0);
        caught(hall, 9, 0, 0, 0, 0, 0, 0);
        caught(hall, 8, 0, 0, NONE, NONE, NONE, NONE);
        hall = hall(1, "(9)*8 9");
        caught(hall, 8, 0, 0, NONE, NONE, NONE, 8);
        caught(hall, 999, 0, 0, 990, 0, 0, 0);
    }

    private static void wrongInputs() {
        JugglingHall hall = new JugglingHall(2);
        check.taken(hall, "row A=<3|[3 1]><2|2>;row B=<3p1|0>;row C=<[33]|3>;");
        check.same("good(2, 0)", hall.good(2, 0), 1);
        for (int letter : new int[] {-1, 1, 3, 8, Integer.MAX_VALUE, Integer.MIN_VALUE}) {
            check.same("cycles", hall.cycles(letter), NONE);
            check.same("cycle", hall.cycle(letter, 0, 0), NONE);
            check.same("cycleOf", hall.cycleOf(letter, 0, 0, 0), NONE);
            check.same("caught", hall.caught(letter, 0, 0, 0, 3), NONE);
        }
        int[][] cycles = {{-1, 0}, {3, 0}, {Integer.MAX_VALUE, 0}, {0, -1}, {0, 6}, {0, Integer.MIN_VALUE}};
        for (int[] a : cycles) {
            check.same("cycle", hall.cycle(2, a[0], a[1]), NONE);
        }
        int[][] places = {{-1, 0, 0}, {1, 0, 0}, {0, -1, 0}, {0, 2, 0}, {0, 0, -1}, {0, 0, 2}, {0, 1, 1},
            {Integer.MAX_VALUE, 0, 0}, {0, Integer.MAX_VALUE, 0}, {0, 0, Integer.MIN_VALUE}};
        for (int[] a : places) {
            check.same("cycleOf", hall.cycleOf(2, a[0], a[1], a[2]), NONE);
        }
        int[][] plays = {{-1, 0, 0, 3}, {1000, 0, 0, 3}, {0, -1, 0, 3}, {0, 2, 0, 3}, {0, 0, -1, 3}, {0, 0, 2, 3},
            {0, 1, 1, 3}, {9, 0, 0, -1}, {9, 0, 0, 4}, {Integer.MAX_VALUE, 0, 0, 0}, {Integer.MIN_VALUE, 0, 0, 0}};
        for (int[] a : plays) {
            check.same("caught", hall.caught(2, a[0], a[1], a[2], a[3]), NONE);
        }
    }
}
