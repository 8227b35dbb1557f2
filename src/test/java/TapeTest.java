/** Promises 1 (a new object), 2 (feed), 3 (end) and 24 (about). */
public final class TapeTest {
    private static final int NONE = JugglingHall.NONE;

    public static void main(String[] args) {
        Check check = new Check("TapeTest");
        jugglers(check);
        newObject(check);
        tape(check);
        bytes(check);
        about(check);
        check.finish();
    }

    private static void jugglers(Check check) {
        int[] asked = {Integer.MIN_VALUE, -1, 0, 1, 2, 3, 4, Integer.MAX_VALUE};
        int[] due = {1, 1, 1, 1, 2, 3, 3, 3};
        for (int i = 0; i < asked.length; i++) {
            check.same("about(0) of " + asked[i], new JugglingHall(asked[i]).about(0), due[i]);
        }
        check.same("NONE", JugglingHall.NONE, -1);
    }

    private static void newObject(Check check) {
        JugglingHall hall = new JugglingHall(1);
        check.same("TIME", hall.about(1), 0);
        check.same("LOOK", hall.about(2), 0);
        check.same("tape", hall.about(3), 0);
        check.same("SCORE", hall.about(4), 0);
        check.same("letters", hall.about(5), 0);
        for (int letter = -1; letter <= 8; letter++) {
            check.same("beats", hall.beats(letter), NONE);
            check.same("cycles", hall.cycles(letter), NONE);
            check.same("state", hall.state(letter, 0), NONE);
            check.same("add", hall.add(letter, 1), NONE);
            check.same("drop", hall.drop(letter, 0, 0), NONE);
            check.same("turned", hall.turned(letter, letter), NONE);
        }
        check.same("fault(0) ahead of any", hall.fault(0), NONE);
        check.same("fault(1) ahead of any", hall.fault(1), NONE);
        check.same("clear", hall.clear(), 0);
    }

    private static void tape(Check check) {
        JugglingHall hall = new JugglingHall(1);
        check.same("end(1) of an empty tape", hall.end(1), NONE);
        check.same("end(-1)", hall.end(-1), NONE);
        for (int n = 20; n <= 300; n += 20) {
            check.same("feed", hall.feed(0, 0, 0, 0, 0), n);
        }
        check.same("feed above 300", hall.feed(0, 0, 0, 0, 0), NONE);
        check.same("tape", hall.about(3), 300);
        check.same("end(301)", hall.end(301), NONE);
        check.same("end(300)", hall.end(300), 300);
        check.same("end(281)", hall.end(281), 281);
        check.same("feed above 300", hall.feed(0, 0, 0, 0, 0), NONE);
        check.same("tape", hall.about(3), 281);
        check.same("end(282)", hall.end(282), NONE);
        check.same("end(280)", hall.end(280), 280);
        check.same("feed up to 300", hall.feed(0, 0, 0, 0, 0), 300);
        check.same("end(min)", hall.end(Integer.MIN_VALUE), NONE);
        check.same("end(max)", hall.end(Integer.MAX_VALUE), NONE);
        check.same("end(0)", hall.end(0), 0);
    }

    private static void bytes(Check check) {
        JugglingHall hall = new JugglingHall(1);
        // "row A=12345678901;  " in five words, the highest byte of the first word first
        hall.feed(0x726f7720, 0x413d3132, 0x33343536, 0x37383930, 0x313b2020);
        check.same("text", hall.text(), 1);
        check.sameText("the row", Check.heights(hall, 0, 0), "12345678901");
        // a byte of 128 and more is no token, however the words' signs are
        hall.feed(0x726f7720, 0x413d33ff, 0, 0, 0);
        check.same("text", hall.text(), NONE);
        check.same("fault(0)", hall.fault(0), 1);
        check.same("fault(1)", hall.fault(1), 7);
    }

    private static void about(Check check) {
        JugglingHall hall = new JugglingHall(1);
        check.taken(hall, "row A=531;row C=3;");
        check.taken(hall, "row H=1;");
        hall.add(0, 2);
        hall.feed(1, 2, 3, 4, 5);
        int[] due = {NONE, 1, 2, 2, 20, 6, 3, NONE};
        for (int what = -1; what <= 6; what++) {
            check.same("about(" + what + ")", hall.about(what), due[what + 1]);
        }
        hall.look(1);
        check.same("about(2) of an earlier look", hall.about(2), 1);
        check.same("about(5) of an earlier look", hall.about(5), 2);
        check.same("about(max)", hall.about(Integer.MAX_VALUE), NONE);
        check.same("about(min)", hall.about(Integer.MIN_VALUE), NONE);
    }
}
