/** Promises 20 (seen) and 21 (whole). */
public final class SeenTest {
    private static final int NONE = JugglingHall.NONE;

    private static Check check;

    public static void main(String[] args) {
        check = new Check("SeenTest");
        marks();
        nothingSeen();
        whole();
        sevenOpen();
        wrongInputs();
        check.finish();
    }

    private static void marks() {
        JugglingHall hall = new JugglingHall(1);
        check.same("seen(0) of none", hall.seen(0), 0);
        check.same("seen(10) of none", hall.seen(10), NONE);
        check.taken(hall, "seen 5?0;");
        int[][] due = {{0, 3}, {10, 5}, {11, NONE}, {12, 0}, {13, NONE}, {9, NONE}, {1, NONE}, {-1, NONE},
            {Integer.MAX_VALUE, NONE}, {Integer.MIN_VALUE, NONE}};
        for (int[] a : due) {
            check.same("seen(" + a[0] + ")", hall.seen(a[0]), a[1]);
        }
        check.taken(hall, "row B=3;");
        check.same("seen stays", hall.seen(0), 3);
        check.taken(hall, "seen 9;");
        check.same("seen(0)", hall.seen(0), 1);
        check.taken(hall, "row A=3;");
        check.same("seen stays", hall.seen(10), 9);
        check.told(hall, "seen 12;seen;", 1, 12);
        check.same("a fault tells nothing", hall.seen(0), 1);
        hall.look(1);
        check.same("at an earlier look", hall.seen(0), 3);
        hall.look(0);
        check.same("at time 0", hall.seen(0), 0);
        check.same("whole at time 0", hall.whole(3, NONE), NONE);
    }

    private static void nothingSeen() {
        JugglingHall hall = new JugglingHall(1);
        for (int balls = -1; balls <= 10; balls++) {
            check.same("whole(" + balls + ", NONE)", hall.whole(balls, NONE), NONE);
            check.same("whole(" + balls + ", 0)", hall.whole(balls, 0), NONE);
        }
    }

    private static String first(JugglingHall hall, int balls) {
        StringBuilder all = new StringBuilder();
        for (int i = 0; i < hall.seen(0); i++) {
            all.append(hall.whole(balls, i) == NONE ? "-" : String.valueOf(hall.whole(balls, i)));
        }
        return all.toString();
    }

    private static void whole(int jugglers, String marks, int balls, int count, String first) {
        JugglingHall hall = new JugglingHall(jugglers);
        check.taken(hall, "seen " + marks + ";");
        check.same("whole of " + marks + " with " + balls, hall.whole(balls, NONE), count);
        check.sameText("first of " + marks + " with " + balls, first(hall, balls), first);
    }

    private static void whole() {
        whole(1, "5?1", 3, 1, "531");
        whole(1, "5?1", 2, 1, "501");
        whole(1, "5?1", 4, 1, "561");
        whole(1, "5?1", 9, 0, "---");
        whole(1, "?", 0, 1, "0");
        whole(1, "?", 9, 1, "9");
        whole(1, "4", 4, 1, "4");
        whole(1, "4", 3, 0, "-");
        whole(1, "432", 3, 0, "---");
        whole(1, "441", 3, 1, "441");
        // 04, 13, 22, 31, 40: all with an even sum that land apart
        whole(1, "??", 2, 5, "04");
        whole(1, "??", 9, 1, "99");
        whole(1, "??????0", 0, 1, "0000000");
        whole(1, "9999999", 9, 1, "9999999");
        // the marks are of plain rows, whoever juggles in the hall
        whole(2, "5?1", 3, 1, "531");
        whole(3, "??", 2, 5, "04");
    }

    private static void sevenOpen() {
        JugglingHall hall = new JugglingHall(1);
        Model model = new Model(1);
        check.taken(hall, "seen ???????;");
        int[] words = {0x7365656e, 0x203f3f3f, 0x3f3f3f3f, 0x3b202020, 0x20202020};
        model.feed(words);
        check.same("the model's text", model.text(), 1);
        for (int balls = 0; balls <= 9; balls++) {
            check.same("whole(" + balls + ", NONE)", hall.whole(balls, NONE), model.whole(balls, NONE));
            for (int i = 0; i < 7; i++) {
                check.same("whole(" + balls + ", " + i + ")", hall.whole(balls, i), model.whole(balls, i));
            }
        }
    }

    private static void wrongInputs() {
        JugglingHall hall = new JugglingHall(1);
        check.taken(hall, "seen 5?1;");
        int[][] others = {{-1, NONE}, {10, NONE}, {Integer.MAX_VALUE, NONE}, {Integer.MIN_VALUE, NONE}, {3, -2},
            {3, 3}, {3, Integer.MAX_VALUE}, {3, Integer.MIN_VALUE}, {9, 0}, {-1, 0}, {10, 0}};
        for (int[] a : others) {
            check.same("whole(" + a[0] + ", " + a[1] + ")", hall.whole(a[0], a[1]), NONE);
        }
    }
}
