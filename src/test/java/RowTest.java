/** Promises 6 (look), 7 (beats), 8 (thrown) and 9 (good). */
public final class RowTest {
    private static final int NONE = JugglingHall.NONE;

    private static Check check;

    public static void main(String[] args) {
        check = new Check("RowTest");
        looks();
        looksAfterTellings();
        beats();
        throwsInOrder();
        wrongInputs();
        goodOrBad();
        badPlaces();
        plain();
        check.finish();
    }

    private static void looks() {
        JugglingHall hall = new JugglingHall(1);
        check.same("look(0)", hall.look(0), true);
        check.same("look(1)", hall.look(1), false);
        check.taken(hall, "row A=3;seen 1;");
        check.taken(hall, "row B=4 4;");
        check.taken(hall, "row A=555;seen 1?;");
        int[] a = {NONE, 1, 1, 3};
        int[] b = {NONE, NONE, 2, 2};
        int[] seen = {0, 1, 1, 2};
        for (int time = 3; time >= 0; time--) {
            check.same("look(" + time + ")", hall.look(time), true);
            check.same("A at " + time, hall.beats(0), a[time]);
            check.same("B at " + time, hall.beats(1), b[time]);
            check.same("seen at " + time, hall.seen(0), seen[time]);
            check.same("about(2)", hall.about(2), time);
        }
        hall.look(2);
        check.same("look(4)", hall.look(4), false);
        check.same("look(-1)", hall.look(-1), false);
        check.same("look(max)", hall.look(Integer.MAX_VALUE), false);
        check.same("look(min)", hall.look(Integer.MIN_VALUE), false);
        check.same("the look stays", hall.about(2), 2);
    }

    private static void looksAfterTellings() {
        JugglingHall hall = new JugglingHall(1);
        check.taken(hall, "row A=531;");
        check.taken(hall, "row A=3;");
        hall.look(1);
        check.told(hall, "row", 1, 3);
        check.same("a fault leaves the look", hall.about(2), 1);
        check.taken(hall, "");
        check.same("a telling moves the look", hall.about(2), 3);
        check.same("A", hall.beats(0), 1);
        hall.look(1);
        check.same("drop of the row looked at", hall.drop(0, 2, 1), 4);
        check.same("a drop moves the look", hall.about(2), 4);
        check.sameText("B", Check.heights(hall, 1, 0), "501");
        check.sameText("A is the latest one again", Check.heights(hall, 0, 0), "3");
        check.same("TIME stays with a look", hall.look(0) ? hall.about(1) : NONE, 4);
    }

    private static void beats() {
        JugglingHall hall = new JugglingHall(1);
        check.taken(hall, "row A=1;row H=3*9 3*9 3*6;");
        check.same("beats(0)", hall.beats(0), 1);
        check.same("beats(7)", hall.beats(7), 24);
        int[] others = {-1, 1, 8, Integer.MAX_VALUE, Integer.MIN_VALUE};
        for (int letter : others) {
            check.same("beats(" + letter + ")", hall.beats(letter), NONE);
        }
    }

    private static void throwsInOrder() {
        JugglingHall hall = new JugglingHall(3);
        check.taken(hall, "row A=<[35]|[4p2 4p0]|[09]>;");
        int[][] due = {{5, 0, 3, 0}, {4, 0, 4, 2}, {9, 2, 0, NONE}};
        for (int juggler = 0; juggler < 3; juggler++) {
            for (int k = 0; k < 2; k++) {
                String name = juggler + ", " + k;
                check.same("height " + name, hall.thrown(0, 0, juggler, k, 0), due[juggler][k * 2]);
                check.same("to whom " + name, hall.thrown(0, 0, juggler, k, 1), due[juggler][k * 2 + 1]);
            }
        }
        check.taken(hall, "row A=<[0p1 0]|[3p1 3p1]|0p0>;");
        check.same("none", hall.thrown(0, 0, 0, 0, 0), 0);
        check.same("none", hall.thrown(0, 0, 0, 0, 1), NONE);
        check.same("twice the same", hall.thrown(0, 0, 1, 0, 0), 3);
        check.same("twice the same", hall.thrown(0, 0, 1, 1, 0), 3);
    }

    private static void wrongInputs() {
        JugglingHall hall = new JugglingHall(2);
        check.taken(hall, "row A=<3|3>*2;");
        int[][] others = {{-1, 0, 0, 0, 0}, {1, 0, 0, 0, 0}, {8, 0, 0, 0, 0}, {0, -1, 0, 0, 0}, {0, 2, 0, 0, 0},
            {0, 0, -1, 0, 0}, {0, 0, 2, 0, 0}, {0, 0, 0, -1, 0}, {0, 0, 0, 2, 0}, {0, 0, 0, 0, -1}, {0, 0, 0, 0, 2},
            {0, Integer.MAX_VALUE, 0, 0, 0}, {0, 0, Integer.MIN_VALUE, 0, 0}, {0, 0, 0, Integer.MAX_VALUE, 0}};
        for (int[] a : others) {
            check.same("thrown of others", hall.thrown(a[0], a[1], a[2], a[3], a[4]), NONE);
        }
        int[][] goods = {{-1, 0}, {1, 0}, {8, 0}, {0, -1}, {0, 5}, {0, Integer.MAX_VALUE}, {Integer.MIN_VALUE, 0}};
        for (int[] a : goods) {
            check.same("good of others", hall.good(a[0], a[1]), NONE);
        }
    }

    private static void good(JugglingHall hall, String text, int... due) {
        check.taken(hall, "row A=" + text + ";");
        for (int what = 0; what < 5; what++) {
            check.same("good(0, " + what + ") of " + text, hall.good(0, what), due[what]);
        }
    }

    private static void goodOrBad() {
        JugglingHall hall = new JugglingHall(1);
        good(hall, "531", 1, NONE, NONE, 3, 1);
        good(hall, "0", 1, NONE, NONE, 0, 1);
        good(hall, "9", 1, NONE, NONE, 9, 1);
        good(hall, "[99]", 1, NONE, NONE, 18, 0);
        good(hall, "[43]1", 1, NONE, NONE, 4, 0);
        good(hall, "[43]23", 1, NONE, NONE, 4, 0);
        good(hall, "[42]00", 0, 0, 0, NONE, 0);
        good(hall, "[54][43]", 1, NONE, NONE, 8, 0);
        good(hall, "00000", 1, NONE, NONE, 0, 1);
        good(hall, "(9)*9 9*9 9*6", 1, NONE, NONE, 9, 1);
    }

    private static void badPlaces() {
        JugglingHall hall = new JugglingHall(3);
        good(hall, "<1|1|1p0>", 0, 0, 0, NONE, 0);
        good(hall, "<1|1|0><0|0|1>", 0, 0, 0, NONE, 0);
        good(hall, "<2|2p2|2p2><2|2|2>", 0, 0, 1, NONE, 0);
        good(hall, "<2|2|2><2|2|2p1>", 0, 1, 1, NONE, 0);
        good(hall, "<2|2|2><2|2|[22p2]>", 1, NONE, NONE, 7, 0);
        good(hall, "<2|2|2><2|2|2><3|2|1>*2", 0, 0, 0, NONE, 0);
        good(hall, "<4p1|4p2|4p0>", 1, NONE, NONE, 12, 0);
    }

    private static void plain() {
        JugglingHall hall = new JugglingHall(1);
        good(hall, "432", 0, 0, 0, NONE, 1);
        good(hall, "[03]", 1, NONE, NONE, 3, 1);
        good(hall, "[00]", 1, NONE, NONE, 0, 1);
        good(hall, "3[11]", 0, 0, 0, NONE, 0);
    }
}
