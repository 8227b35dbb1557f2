/** Promises 22 (drop) and 23 (turned). */
public final class DropTest {
    private static final int NONE = JugglingHall.NONE;

    private static Check check;

    public static void main(String[] args) {
        check = new Check("DropTest");
        dropped();
        numberedAnew();
        manyCycles();
        dropOthers();
        turned();
        turnedOthers();
        check.finish();
    }

    private static void dropped() {
        JugglingHall hall = new JugglingHall(1);
        check.taken(hall, "row A=531;row H=7;");
        check.same("drop(0, 2, 5)", hall.drop(0, 2, 5), 2);
        check.sameText("F", Check.heights(hall, 5, 0), "501");
        check.same("balls of F", hall.good(5, 3), 2);
        check.sameText("A stays", Check.heights(hall, 0, 0), "531");
        check.same("drop(0, 1, 0): the same letter", hall.drop(0, 1, 0), 3);
        check.sameText("A", Check.heights(hall, 0, 0), "030");
        hall.look(1);
        check.sameText("A as it was", Check.heights(hall, 0, 0), "531");
        check.same("drop of all", hall.drop(0, 3, 7), 4);
        check.sameText("H", Check.heights(hall, 7, 0), "000");
        check.same("cycles of H", hall.cycles(7), 0);
        check.same("drop of none", hall.drop(7, 0, 6), 5);
        check.sameText("G", Check.heights(hall, 6, 0), "000");
        check.same("drop of a cycle that isn't there", hall.drop(7, 1, 6), NONE);
        check.same("TIME", hall.about(1), 5);
        check.same("the latest text stays read", hall.fault(0), 0);
    }

    private static void numberedAnew() {
        JugglingHall hall = new JugglingHall(2);
        check.taken(hall, "row A=<[4 2p0]|3>;");
        check.same("cycles", hall.cycles(0), 3);
        check.same("drop the first", hall.drop(0, 1, 1), 2);
        check.same("what was number 1 is 0", hall.thrown(1, 0, 0, 0, 0), 2);
        check.same("no number 1", hall.thrown(1, 0, 0, 1, 0), 0);
        check.same("the other juggler's", hall.thrown(1, 0, 1, 0, 0), 3);
        check.same("good", hall.good(1, 3), 5);
    }

    private static void manyCycles() {
        JugglingHall hall = new JugglingHall(3);
        check.taken(hall, "row A=<[99]|[99]|[99]>*9;");
        check.same("cycles", hall.cycles(0), 54);
        check.same("the first 31", hall.drop(0, Integer.MAX_VALUE, 1), 2);
        check.same("balls", hall.good(1, 3), 23);
        check.same("the first 32", hall.drop(0, -1, 1), 3);
        check.same("balls", hall.good(1, 3), 22);
        check.same("only 22 are there", hall.cycles(1), 22);
        check.same("the 23rd isn't", hall.drop(1, 1 << 22, 1), NONE);
        check.same("the 22nd is", hall.drop(1, 1 << 21, 1), 4);
        JugglingHall two = new JugglingHall(2);
        check.taken(two, "row A=<[88]|[88]>*8;");
        check.same("cycles", two.cycles(0), 32);
        check.same("the last of 32", two.drop(0, Integer.MIN_VALUE, 1), 2);
        check.same("it was the last throw", two.thrown(1, 7, 1, 1, 0), 0);
        check.same("all 32", two.drop(0, -1, 2), 3);
        check.same("balls", two.good(2, 3), 0);
    }

    private static void dropOthers() {
        JugglingHall hall = new JugglingHall(1);
        check.taken(hall, "row A=531;row B=432;");
        int[][] others = {{-1, 0, 0}, {2, 0, 0}, {8, 0, 0}, {0, 0, -1}, {0, 0, 8}, {1, 0, 0}, {0, 4, 0}, {0, 5, 0},
            {0, -1, 0}, {0, Integer.MIN_VALUE, 0}, {Integer.MAX_VALUE, 0, 0}, {0, 0, Integer.MIN_VALUE}};
        for (int[] a : others) {
            check.same("drop(" + a[0] + ", " + a[1] + ", " + a[2] + ")", hall.drop(a[0], a[1], a[2]), NONE);
        }
        check.same("TIME", hall.about(1), 1);
        for (int time = 2; time <= 60; time++) {
            check.same("drop", hall.drop(0, 0, time % 8 == 0 ? 3 : 4), time);
        }
        check.same("drop at 60", hall.drop(0, 0, 4), NONE);
        check.same("TIME", hall.about(1), 60);
    }

    private static void turned() {
        JugglingHall hall = new JugglingHall(1);
        check.taken(hall, "row A=531;row B=153;row C=3;row D=333;row E=3131;row F=1313;row G=432;row H=324;");
        int[][] due = {{0, 0, 0}, {0, 1, 1}, {1, 0, 2}, {0, 2, NONE}, {2, 3, NONE}, {3, 3, 0}, {4, 5, 1}, {5, 4, 1},
            {4, 4, 0}, {0, 6, NONE}, {6, 7, 2}, {7, 6, 1}};
        for (int[] a : due) {
            check.same("turned(" + a[0] + ", " + a[1] + ")", hall.turned(a[0], a[1]), a[2]);
        }
        JugglingHall two = new JugglingHall(2);
        check.taken(two, "row A=<3p1|[12]><3|0>;row B=<3|0><3p1|[12]>;row C=<3|0><3p0|[12]>;row D=<3|0><3p1|[13]>;");
        check.same("turned for two", two.turned(0, 1), 1);
        check.same("to another one", two.turned(0, 2), NONE);
        check.same("another second throw", two.turned(0, 3), NONE);
    }

    private static void turnedOthers() {
        JugglingHall hall = new JugglingHall(1);
        check.taken(hall, "row A=531;");
        check.taken(hall, "row B=315;row A=3;");
        int[][] others = {{-1, 0}, {0, -1}, {8, 0}, {0, 8}, {0, 2}, {2, 0}, {2, 2}, {Integer.MAX_VALUE, 0},
            {0, Integer.MIN_VALUE}, {0, 1}};
        for (int[] a : others) {
            check.same("turned(" + a[0] + ", " + a[1] + ")", hall.turned(a[0], a[1]), NONE);
        }
        hall.look(1);
        check.same("turned at an earlier look", hall.turned(0, 0), 0);
        check.same("no row there yet", hall.turned(0, 1), NONE);
    }
}
