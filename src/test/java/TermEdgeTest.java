/** The terms I: each sentence that names a boundary has its own test here, with its words. */
public final class TermEdgeTest {
    private static final int NONE = JugglingHall.NONE;
    private static final int A = 0;
    private static final int B = 1;
    private static final String BEATS_24 = "1*9 1*9 1*6";

    private static Check check;

    public static void main(String[] args) {
        check = new Check("TermEdgeTest");
        jugglers();
        beats();
        throwsOnABeat();
        heights();
        numbers();
        landing();
        good();
        badPlace();
        balls();
        plain();
        time();
        letters();
        rowAtTheLook();
        lookBehindTellings();
        seenAtTheLook();
        calls();
        check.finish();
    }

    private static void good(JugglingHall hall, int is, int beat, int juggler, int balls) {
        check.same("GOOD", hall.good(A, 0), is);
        check.same("BAD PLACE: BEAT", hall.good(A, 1), beat);
        check.same("BAD PLACE: JUGGLER", hall.good(A, 2), juggler);
        check.same("BALLS", hall.good(A, 3), balls);
    }

    private static void jugglers() {
        check.sentence("JUGGLERS: 1 to 3.");
        String[] beats = {"1", "<1|1>", "<1|1|1>"};
        for (int jugglers = 1; jugglers <= 3; jugglers++) {
            JugglingHall hall = check.hall(jugglers, "row A=" + beats[jugglers - 1] + ";");
            check.same("the last JUGGLER throws", hall.thrown(A, 0, jugglers - 1, 0, 0), 1);
            check.same("there is none behind the last", hall.thrown(A, 0, jugglers, 0, 0), NONE);
            check.same("there is none ahead of the first", hall.thrown(A, 0, -1, 0, 0), NONE);
        }
    }

    private static void beats() {
        check.sentence("A ROW: n BEATS (1 to 24)");
        check.same("one BEAT", check.hall(1, "row A=1;").beats(A), 1);
        check.same("24 BEATS", check.hall(1, "row A=" + BEATS_24 + ";").beats(A), 24);
        check.same("24 BEATS of three", check.hall(3, "row A=<1|1|1>*8<1|1|1>*8<1|1|1>*8;").beats(A), 24);
        check.refused(1, "row A=;", 1, 6);
        check.refused(1, "row A=" + BEATS_24 + " 1;", 4, 18);
    }

    private static void throwsOnABeat() {
        check.sentence("on each one of each JUGGLER 0 to 2 THROWS");
        JugglingHall hall = check.hall(3, "row A=<0|1|[12]>;");
        check.sameText("none, one and two", Check.throwsOf(hall, A), "<0|1p1|2p2 1p2>");
        check.sameText("twice none", Check.throwsOf(check.hall(1, "row A=[00];"), A), "<0>");
        check.refused(3, "row A=<0|1|[123]>;", 1, 14);
    }

    private static void heights() {
        check.sentence("each with a HEIGHT (1 .. 9) to a JUGGLER (also itself)");
        String lowest = "<1p0|1p0|1p0>";
        String highest = "<9p2|9p2|9p2>";
        JugglingHall hall = check.hall(3, "row A=" + lowest + highest + ";");
        check.sameText("lowest and highest", Check.throwsOf(hall, A), lowest + highest);
        check.row("0123456789", "0123456789");
    }

    private static void numbers() {
        check.sentence("numbered 0, 1: the greater HEIGHT first, then the one to the lower JUGGLER.");
        String told = "row A=<[8 9p2]|[9p2 8]|[01p0]><[5p2 5p0]|[5p0 5p2]|[5p1 5p2]><[3p1 3p1]|[04]|[40]>;";
        JugglingHall hall = check.hall(3, told);
        check.sameText("in their order", Check.throwsOf(hall, A),
                "<9p2 8p0|9p2 8p1|1p0><5p0 5p2|5p0 5p2|5p1 5p2><3p1 3p1|4p1|4p2>");
    }

    private static void landing() {
        check.sentence("A THROW on BEAT i with HEIGHT h to j LANDS on BEAT (i + h) % n at j.");
        good(check.hall(1, "row A=9;"), 1, NONE, NONE, 9);
        good(check.hall(1, "row A=19;"), 1, NONE, NONE, 5);
        good(check.hall(1, "row A=91;"), 1, NONE, NONE, 5);
        good(check.hall(1, "row A=0*9 0*9 0*5 9;"), 0, 8, 0, NONE);
        good(check.hall(1, "row A=0*9 0*6 9 0*8;"), 0, 0, 0, NONE);
        good(check.hall(1, "row A=0*9 0*5 9 0*9;"), 0, 14, 0, NONE);
        good(check.hall(3, "row A=<0|9p2|0><0|0|9p1>;"), 1, NONE, NONE, 9);
        good(check.hall(3, "row A=<0|9p2|0><0|9p1|0>;"), 0, 1, 1, NONE);
        good(check.hall(3, "row A=<0|8p2|8p1>;"), 1, NONE, NONE, 16);
    }

    private static void good() {
        check.sentence("GOOD: on each BEAT, at each JUGGLER as many LAND as there are THROWS");
        good(check.hall(1, "row A=0;"), 1, NONE, NONE, 0);
        good(check.hall(1, "row A=20;"), 1, NONE, NONE, 1);
        good(check.hall(1, "row A=10;"), 0, 0, 0, NONE);
        good(check.hall(1, "row A=01;"), 0, 0, 0, NONE);
        good(check.hall(1, "row A=[22]1;"), 0, 0, 0, NONE);
        good(check.hall(1, "row A=[22]2;"), 1, NONE, NONE, 3);
        good(check.hall(2, "row A=<1|1>;"), 1, NONE, NONE, 2);
        good(check.hall(2, "row A=<1|1p0>;"), 0, 0, 0, NONE);
    }

    private static void badPlace() {
        check.sentence("BAD PLACE: the first BEAT, JUGGLER where it isn't so.");
        good(check.hall(3, "row A=<1|1|1><1p1|1|1>;"), 0, 0, 0, NONE);
        good(check.hall(3, "row A=<1|1|1><1|1p2|1>;"), 0, 0, 1, NONE);
        good(check.hall(3, "row A=<1|1|1p0><1|1|1>;"), 0, 1, 0, NONE);
        // where it isn't so, it isn't so at two places, and the last one is never the first
        String most = "<1|1|1>*9<1|1|1>*9<1|1|1>*4";
        good(check.hall(3, "row A=" + most + "<1|1|1p1><1|1|1>;"), 0, 23, 1, NONE);
        good(check.hall(3, "row A=" + most + "<1|1|1><1|1|1>;"), 1, NONE, NONE, 3);
        // three land on beat 6 and none on 7 and 8; two on beat 1 and none on 2
        good(check.hall(1, "row A=9*6 987;"), 0, 6, 0, NONE);
        good(check.hall(1, "row A=332;"), 0, 1, 0, NONE);
    }

    private static void balls() {
        check.sentence("BALLS of one that is GOOD: all HEIGHTS together / n.");
        good(check.hall(1, "row A=0*9 0*9 0*6;"), 1, NONE, NONE, 0);
        good(check.hall(3, "row A=<[99]|[99]|[99]>*9<[99]|[99]|[99]>*9<[99]|[99]|[99]>*6;"), 1, NONE, NONE, 54);
        good(check.hall(1, "row A=" + BEATS_24 + ";"), 1, NONE, NONE, 1);
        good(check.hall(1, "row A=444;"), 1, NONE, NONE, 4);
        // heights that together make balls are not enough to be good
        good(check.hall(1, "row A=432;"), 0, 0, 0, NONE);
    }

    private static void plain() {
        check.sentence("PLAIN: one JUGGLER, nowhere two THROWS.");
        check.same("one", check.hall(1, "row A=9;").good(A, 4), 1);
        check.same("none", check.hall(1, "row A=0;").good(A, 4), 1);
        check.same("two on the first BEAT", check.hall(1, "row A=[11]1;").good(A, 4), 0);
        check.same("two on the last of 24", check.hall(1, "row A=1*9 1*9 1*5[11];").good(A, 4), 0);
        check.same("one and none on the last of 24", check.hall(1, "row A=1*9 1*9 1*5[01];").good(A, 4), 1);
        check.same("not GOOD", check.hall(1, "row A=432;").good(A, 4), 1);
        check.same("two JUGGLERS without THROWS", check.hall(2, "row A=<0|0>;").good(A, 4), 0);
        check.same("three JUGGLERS", check.hall(3, "row A=<1|0|0>;").good(A, 4), 0);
    }

    private static void time() {
        check.sentence("TIME: 0 at first; each telling that is done makes it one more (60 at most).");
        JugglingHall hall = new JugglingHall(1);
        check.same("at first", hall.about(1), 0);
        check.taken(hall, "row A=1;");
        check.told(hall, "row A=", 1, 6);
        check.same("a refused text is no telling", hall.about(1), 1);
        check.same("a drop is one", hall.drop(A, 0, B), 2);
        check.same("a refused drop is none", hall.drop(A, 2, B), NONE);
        check.same("TIME", hall.about(1), 2);
        for (int time = 3; time <= 60; time++) {
            check.same("text", hall.text(), time);
        }
        check.same("the 61st text", hall.text(), NONE);
        check.same("the 61st drop", hall.drop(A, 0, B), NONE);
        check.same("60 at most", hall.about(1), 60);
    }

    private static void letters() {
        check.sentence("ROWS A .. H (0 .. 7).");
        JugglingHall hall = check.hall(1, "row A=1;row B=A 1;row C=B 1;row D=C 1;"
                + "row E=D 1;row F=E 1;row G=F 1;row H=G 1;");
        for (int letter = 0; letter < 8; letter++) {
            check.same("BEATS of letter " + letter, hall.beats(letter), letter + 1);
        }
        check.same("letters with a ROW", hall.about(5), 8);
        for (int time = 1; time <= 3; time++) {
            check.same("ahead of A", hall.beats(-1), NONE);
            check.same("behind H", hall.beats(8), NONE);
            check.same("text", hall.text(), time + 1);
        }
        hall.look(2);
        check.same("ahead of A at an earlier LOOK", hall.beats(-1), NONE);
        check.same("behind H at an earlier LOOK", hall.beats(8), NONE);
        check.refused(1, "row I=1;", 1, 4);
        check.refused(1, "row @=1;", 1, 4);
    }

    private static void rowAtTheLook() {
        check.sentence("of each letter THE ROW is the one told latest at or ahead of it");
        JugglingHall hall = check.hall(1, "row B=4;");
        check.taken(hall, "row A=1;");
        check.taken(hall, "row B=44;");
        check.taken(hall, "row A=11;");
        check.taken(hall, "");
        int[] a = {NONE, NONE, 1, 1, 2, 2};
        int[] b = {NONE, 1, 1, 2, 2, 2};
        int[] letters = {0, 1, 2, 2, 2, 2};
        for (int time = 0; time <= 5; time++) {
            check.same("look", hall.look(time), true);
            check.same("A at " + time, hall.beats(A), a[time]);
            check.same("B at " + time, hall.beats(B), b[time]);
            check.same("letters at " + time, hall.about(5), letters[time]);
        }
    }

    private static void lookBehindTellings() {
        check.sentence("(at first, and behind each telling, it is the latest TIME)");
        JugglingHall hall = new JugglingHall(1);
        check.same("at first", hall.about(2), 0);
        check.taken(hall, "row A=3;");
        check.same("behind a text", hall.about(2), 1);
        hall.look(0);
        check.taken(hall, "");
        check.same("behind a text without a clause", hall.about(2), 2);
        hall.look(1);
        check.same("drop", hall.drop(A, 1, A), 3);
        check.same("behind a drop", hall.about(2), 3);
        hall.look(1);
        check.told(hall, "row", 1, 3);
        check.same("a refused text leaves it", hall.about(2), 1);
        check.same("refused drop", hall.drop(A, 2, A), NONE);
        check.same("a refused drop leaves it", hall.about(2), 1);
    }

    private static void seenAtTheLook() {
        check.sentence("SEEN likewise.");
        JugglingHall hall = check.hall(1, "row A=3;");
        check.taken(hall, "seen 1;");
        check.same("drop", hall.drop(A, 0, B), 3);
        check.taken(hall, "seen 2?;");
        int[] marks = {0, 0, 1, 1, 2};
        int[] first = {NONE, NONE, 1, 1, 2};
        int[] whole = {NONE, NONE, 0, 0, 1};
        for (int time = 4; time >= 0; time--) {
            check.same("look", hall.look(time), true);
            check.same("MARKS at " + time, hall.seen(0), marks[time]);
            check.same("the first MARK at " + time, hall.seen(10), first[time]);
            check.same("whole at " + time, hall.whole(2, NONE), whole[time]);
        }
    }

    private static void calls() {
        check.sentence("An object is used for at most 512 calls after it has been made");
        JugglingHall hall = new JugglingHall(1);
        for (int call = 1; call <= 256; call++) {
            check.same("feed", hall.feed(call, call, call, call, call), 20);
            check.same("end", hall.end(0), 0);
        }
    }
}
