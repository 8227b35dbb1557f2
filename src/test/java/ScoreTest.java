/** Promises 17 (clear), 18 (add) and 19 (score). */
public final class ScoreTest {
    private static final int NONE = JugglingHall.NONE;

    private static Check check;

    public static void main(String[] args) {
        check = new Check("ScoreTest");
        firstOne();
        furtherOnes();
        laterTellings();
        refused();
        longest();
        wrongInputs();
        check.finish();
    }

    private static String heights(JugglingHall hall) {
        StringBuilder all = new StringBuilder();
        for (int i = 0; i < hall.about(4); i++) {
            all.append(hall.score(i, 0));
        }
        return all.toString();
    }

    /** The letters that the heights are of, - for those of a way. */
    private static String letters(JugglingHall hall) {
        StringBuilder all = new StringBuilder();
        for (int i = 0; i < hall.about(4); i++) {
            all.append(hall.score(i, 1) == NONE ? '-' : (char) ('A' + hall.score(i, 1)));
        }
        return all.toString();
    }

    private static void firstOne() {
        JugglingHall hall = new JugglingHall(1);
        check.taken(hall, "row A=531;row B=51;");
        check.same("clear of an empty score", hall.clear(), 0);
        check.same("add(1, 2)", hall.add(1, 2), 4);
        check.sameText("no way to the first one", heights(hall), "5151");
        check.sameText("letters", letters(hall), "BBBB");
        check.same("clear", hall.clear(), 4);
        check.same("clear again", hall.clear(), 0);
        check.same("score is empty", hall.score(0, 0), NONE);
        check.same("add behind a clear", hall.add(0, 1), 3);
        check.sameText("no way from what was cleared", heights(hall), "531");
    }

    private static void furtherOnes() {
        JugglingHall hall = new JugglingHall(1);
        check.taken(hall, "row A=3;row B=51;row C=900000000;row D=0;");
        check.same("add(0, 2)", hall.add(0, 2), 2);
        check.same("add(1, 1)", hall.add(1, 1), 5);
        check.same("add(0, 1)", hall.add(0, 1), 7);
        check.same("add(0, 3)", hall.add(0, 3), 10);
        check.sameText("heights", heights(hall), "33" + "4" + "51" + "2" + "3" + "333");
        check.sameText("letters", letters(hall), "AA-BB-AAAA");
        hall.clear();
        check.same("add(3, 50)", hall.add(3, 50), 50);
        check.same("add(3, 1)", hall.add(3, 1), 51);
        check.same("height 0", hall.score(50, 0), 0);
        hall.clear();
        check.same("add(2, 1)", hall.add(2, 1), 9);
        check.same("add of other balls", hall.add(0, 1), NONE);
        check.same("nothing is done", hall.about(4), 9);
    }

    private static void laterTellings() {
        JugglingHall hall = new JugglingHall(1);
        check.taken(hall, "row A=51;");
        check.same("add", hall.add(0, 1), 2);
        check.taken(hall, "row A=3;");
        check.sameText("the score stays", heights(hall), "51");
        check.same("add", hall.add(0, 1), 4);
        check.sameText("a way from the state there", heights(hall), "5123");
        hall.look(1);
        check.same("add of the row looked at", hall.add(0, 1), 7);
        check.sameText("heights", heights(hall), "5123451");
        hall.look(0);
        check.same("add of no row", hall.add(0, 1), NONE);
        check.sameText("the score has no times", heights(hall), "5123451");
    }

    private static void refused() {
        JugglingHall hall = new JugglingHall(1);
        check.taken(hall, "row A=3;row B=432;row C=[33];row D=[30]3;row E=4;");
        check.same("not good", hall.add(1, 1), NONE);
        check.same("not plain", hall.add(2, 1), NONE);
        check.same("[30] is plain", hall.add(3, 1), 2);
        check.same("other balls", hall.add(4, 1), NONE);
        check.same("times 0", hall.add(0, 0), NONE);
        check.same("times -1", hall.add(0, -1), NONE);
        check.same("times 51", hall.add(0, 51), NONE);
        check.same("times 50", hall.add(0, 50), 52);
        JugglingHall two = new JugglingHall(2);
        check.taken(two, "row A=<3|0>;row B=<0|0>;");
        check.same("two jugglers", two.add(0, 1), NONE);
        check.same("two jugglers", two.add(1, 1), NONE);
    }

    private static void longest() {
        JugglingHall hall = new JugglingHall(1);
        check.taken(hall, "row A=3;row B=51;row C=333333;");
        check.same("300 at once", hall.add(2, 50), 300);
        check.same("301", hall.add(0, 1), NONE);
        hall.clear();
        for (int i = 0; i < 5; i++) {
            hall.add(0, 50);
        }
        check.same("298", hall.add(0, 48), 298);
        check.same("the way counts too", hall.add(1, 1), NONE);
        check.same("nothing is done", hall.about(4), 298);
        check.same("300", hall.add(0, 2), 300);
        hall.clear();
        for (int i = 0; i < 5; i++) {
            hall.add(0, 50);
        }
        check.same("297", hall.add(0, 47), 297);
        check.same("with the way just 300", hall.add(1, 1), 300);
        check.same("the last one", hall.score(299, 0), 1);
        check.same("behind the last one", hall.score(300, 0), NONE);
    }

    private static void wrongInputs() {
        JugglingHall hall = new JugglingHall(1);
        check.taken(hall, "row A=531;");
        for (int letter : new int[] {-1, 1, 8, Integer.MAX_VALUE, Integer.MIN_VALUE}) {
            check.same("add", hall.add(letter, 1), NONE);
        }
        check.same("add max times", hall.add(0, Integer.MAX_VALUE), NONE);
        check.same("add min times", hall.add(0, Integer.MIN_VALUE), NONE);
        hall.add(0, 1);
        int[][] others = {{-1, 0}, {3, 0}, {0, -1}, {0, 2}, {Integer.MAX_VALUE, 0}, {Integer.MIN_VALUE, 1}, {3, 1}};
        for (int[] a : others) {
            check.same("score(" + a[0] + ", " + a[1] + ")", hall.score(a[0], a[1]), NONE);
        }
    }
}
