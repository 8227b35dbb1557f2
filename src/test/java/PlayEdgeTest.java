/** The terms III to V: each sentence that names a boundary has its own test here, with its words. */
public final class PlayEdgeTest {
    private static final int NONE = JugglingHall.NONE;
    private static final int A = 0;
    private static final int B = 1;
    private static final int C = 2;
    private static final int D = 3;
    private static final String ALL_54 = "row A=<[99]|[99]|[99]>;";
    /** Of the six hands a beat, one beat leads two threes round and one joins the threes: all throws are one cycle. */
    private static final String ONE_CYCLE = "row A=<[11]|[11]|[11]>*9<[11]|[11]|[11]>*9<[11]|[11]|[11]>*4"
            + "<[1p1 1p1]|[1p2 1p2]|[1p0 1p0]><[1p0 1p1]|[1p0 1p1]|[11]>;";

    private static Check check;

    public static void main(String[] args) {
        check = new Check("PlayEdgeTest");
        onlyGood();
        orderOfLanding();
        caughtFor();
        numbersOfCycles();
        periods();
        played();
        ballsOfTheStart();
        numbersOfBalls();
        bits();
        states();
        steps();
        fewestSteps();
        loops();
        longestScore();
        firstAndFurther();
        likeBalls();
        marksMadeWhole();
        firstByHeights();
        dropped();
        oneTurned();
        check.finish();
    }

    private static void caught(JugglingHall hall, int t, int juggler, int k, int... due) {
        for (int what = 0; what < due.length; what++) {
            String call = "caught(A, " + t + ", " + juggler + ", " + k + ", " + what + ")";
            check.same(call, hall.caught(A, t, juggler, k, what), due[what]);
        }
    }

    private static void cycle(JugglingHall hall, int cycle, int... due) {
        for (int what = 0; what < due.length; what++) {
            check.same("cycle(A, " + cycle + ", " + what + ")", hall.cycle(A, cycle, what), due[what]);
        }
    }

    private static String way(JugglingHall hall, int from, int to) {
        StringBuilder all = new StringBuilder();
        for (int i = 0; i < hall.way(from, to, NONE); i++) {
            all.append(hall.way(from, to, i));
        }
        return all.toString();
    }

    private static String score(JugglingHall hall) {
        StringBuilder all = new StringBuilder();
        for (int i = 0; i < hall.about(4); i++) {
            all.append(hall.score(i, 1) == NONE ? "-" : "").append(hall.score(i, 0));
        }
        return all.toString();
    }

    private static String whole(JugglingHall hall, int balls) {
        StringBuilder all = new StringBuilder();
        for (int i = 0; i < hall.seen(0); i++) {
            all.append(hall.whole(balls, i) == NONE ? "-" : String.valueOf(hall.whole(balls, i)));
        }
        return all.toString();
    }

    private static void onlyGood() {
        check.sentence("For THE ROW of a letter that is GOOD.");
        for (String row : new String[] {"row A=432;", "row A=01;", "row A=[11]1;"}) {
            JugglingHall hall = check.hall(1, row);
            check.same("cycles", hall.cycles(A), NONE);
            check.same("cycle", hall.cycle(A, 0, 0), NONE);
            check.same("cycleOf", hall.cycleOf(A, 0, 0, 0), NONE);
            check.same("caught", hall.caught(A, 9, 0, 0, 3), NONE);
        }
        check.same("cycles of none that is thrown", check.hall(1, "row A=0;").cycles(A), 0);
    }

    private static void orderOfLanding() {
        check.sentence("the greater HEIGHT first, then the one from the lower JUGGLER, then the lower number");
        // of one juggler's two that land together: the greater height, though it is thrown earlier
        caught(check.hall(1, "row A=[21];"), 9, 0, 0, 7, 0, 0);
        caught(check.hall(1, "row A=[21];"), 9, 0, 1, 8, 0, 1);
        // the greater height comes from the higher juggler
        JugglingHall hall = check.hall(2, "row A=<1p1|[3p1 1p0]>;");
        caught(hall, 9, 1, 0, 6, 1, 0);
        caught(hall, 9, 1, 1, 8, 0, 0);
        // like heights: the lower juggler, though its number is greater
        hall = check.hall(2, "row A=<[3 2p1]|[2 2p0]>;");
        caught(hall, 9, 1, 0, 7, 0, 1);
        caught(hall, 9, 1, 1, 7, 1, 1);
        // like heights from one juggler: the lower number
        hall = check.hall(2, "row A=<[22]|0>;");
        caught(hall, 9, 0, 0, 7, 0, 0);
        caught(hall, 9, 0, 1, 7, 0, 1);
    }

    private static void caughtFor() {
        check.sentence("the first is caught for THROW 0 there, the second for THROW 1.");
        JugglingHall hall = check.hall(3, "row A=<0|0|[9p0 1p0]><[2p2 2p2]|0|0>;");
        check.same("not GOOD", hall.good(A, 0), 0);
        hall = check.hall(3, "row A=<0|0|[9p0 1p0]><[1p2 1p2]|0|0>;");
        caught(hall, 11, 0, 0, 2, 2, 0);
        caught(hall, 11, 0, 1, 10, 2, 1);
        caught(hall, 12, 2, 0, 11, 0, 0);
        caught(hall, 12, 2, 1, 11, 0, 1);
    }

    private static void numbersOfCycles() {
        check.sentence("numbered by their first THROW (by BEATS, JUGGLERS, numbers).");
        JugglingHall hall = check.hall(2, "row A=<2p1|[2p1 2p0]>;");
        check.same("cycles", hall.cycles(A), 2);
        cycle(hall, 0, 2, 4, 4, 0, 0, 0);
        cycle(hall, 1, 1, 2, 2, 0, 1, 1);
        hall = check.hall(1, "row A=0201;");
        check.same("not GOOD", hall.cycles(A), NONE);
        hall = check.hall(2, "row A=<0|0><0|[22]><0|0><0|[22]>;");
        check.same("cycles", hall.cycles(A), 2);
        cycle(hall, 0, 2, 4, 1, 1, 1, 0);
        cycle(hall, 1, 2, 4, 1, 1, 1, 1);
        hall = check.hall(3, "row A=<[99]|[99]|[99]>*9;");
        check.same("cycles", hall.cycles(A), 54);
        cycle(hall, 53, 1, 9, 1, 8, 2, 1);
        check.same("behind the last", hall.cycle(A, 54, 0), NONE);
    }

    private static void periods() {
        check.sentence("Its HEIGHTS together are its PERIOD; that / n its BALLS.");
        cycle(check.hall(1, "row A=1*9 1*9 1*6;"), 0, 24, 24, 1, 0, 0, 0);
        JugglingHall hall = check.hall(1, "row A=9*9 9*9 9*6;");
        check.same("cycles", hall.cycles(A), 3);
        cycle(hall, 2, 8, 72, 3, 2, 0, 0);
        cycle(check.hall(1, "row A=9;"), 0, 1, 9, 9, 0, 0, 0);
        hall = check.hall(3, "row A=<[9p1 9p1]|[9p2 9p2]|[9p0 9p0]>*8<[9p1 9p1]|[9p2 9p2]|[9p0 9p0]>*8;");
        check.same("cycles", hall.cycles(A), 2);
        cycle(hall, 1, 48, 432, 27, 0, 0, 1);
        hall = check.hall(3, ONE_CYCLE);
        check.same("all THROWS are one CYCLE", hall.cycles(A), 1);
        cycle(hall, 0, 144, 144, 6, 0, 0, 0);
        check.same("the last THROW's", hall.cycleOf(A, 23, 2, 1), 0);
    }

    private static void played() {
        check.sentence("PLAYED from BEAT 0 on, over and over (BEATS 0 .. 999).");
        JugglingHall hall = check.hall(1, "row A=531;");
        caught(hall, -1, 0, 0, NONE, NONE, NONE, NONE);
        caught(hall, 0, 0, 0, NONE, NONE, NONE, 0);
        caught(hall, 998, 0, 0, 993, 0, 0, 2);
        caught(hall, 999, 0, 0, 998, 0, 0, 2);
        caught(hall, 1000, 0, 0, NONE, NONE, NONE, NONE);
        // the last round of 24 beats is not played to its end: 999 is its beat 15
        hall = check.hall(1, "row A=9*9 9*9 9*6;");
        caught(hall, 999, 0, 0, 990, 0, 0, 0);
    }

    private static void ballsOfTheStart() {
        check.sentence("A THROW on BEAT t comes from the one that is caught for it, on an earlier BEAT;"
                + " below 0: its ball is one of the start.");
        JugglingHall hall = check.hall(1, "row A=3;");
        caught(hall, 2, 0, 0, NONE, NONE, NONE, 2);
        caught(hall, 3, 0, 0, 0, 0, 0, 0);
        hall = check.hall(1, "row A=9;");
        caught(hall, 8, 0, 0, NONE, NONE, NONE, 8);
        caught(hall, 9, 0, 0, 0, 0, 0, 0);
        hall = check.hall(2, "row A=<1p1|1p0>;");
        caught(hall, 0, 1, 0, NONE, NONE, NONE, 1);
        caught(hall, 1, 1, 0, 0, 0, 0, 0);
    }

    private static void numbersOfBalls() {
        check.sentence("BALLS are numbered by their first THROWS (by BEATS, JUGGLERS, numbers).");
        JugglingHall hall = check.hall(1, "row A=[21];");
        caught(hall, 0, 0, 0, NONE, NONE, NONE, 0);
        caught(hall, 0, 0, 1, NONE, NONE, NONE, 1);
        caught(hall, 1, 0, 0, NONE, NONE, NONE, 2);
        caught(hall, 1, 0, 1, 0, 0, 1, 1);
        caught(hall, 2, 0, 0, 0, 0, 0, 0);
        hall = check.hall(3, ALL_54);
        caught(hall, 0, 0, 0, NONE, NONE, NONE, 0);
        caught(hall, 8, 2, 1, NONE, NONE, NONE, 53);
        caught(hall, 9, 0, 0, 0, 0, 0, 0);
        caught(hall, 998, 2, 1, 989, 2, 1, 53);
        // the only ball is thrown first on beat 23
        hall = check.hall(3, "row A=<0|0|0>*9<0|0|0>*9<0|0|0>*5<0|0|[80]>;");
        check.same("not GOOD", hall.caught(A, 23, 2, 0, 3), NONE);
        hall = check.hall(1, "row A=008;");
        check.same("not GOOD", hall.caught(A, 2, 0, 0, 3), NONE);
        hall = check.hall(1, "row A=009;");
        caught(hall, 2, 0, 0, NONE, NONE, NONE, 0);
        caught(hall, 5, 0, 0, NONE, NONE, NONE, 1);
        caught(hall, 8, 0, 0, NONE, NONE, NONE, 2);
        caught(hall, 11, 0, 0, 2, 0, 0, 0);
    }

    private static void bits() {
        check.sentence("STATES: sets of BEATS to come (bits 0 .. 8).");
        check.same("none", check.hall(1, "row A=0;").state(A, 0), 0);
        check.same("all", check.hall(1, "row A=9;").state(A, 0), 511);
        JugglingHall hall = check.hall(1, "row A=900000000;");
        check.same("bit 0 alone", hall.state(A, 0), 1);
        check.same("bit 8 alone", hall.state(A, 1), 256);
    }

    private static void states() {
        check.sentence("STATE of a PLAIN GOOD ROW on a BEAT: bit k: a THROW of an earlier BEAT lands k BEATS from it.");
        JugglingHall hall = check.hall(1, "row A=900000000;");
        for (int beat = 2; beat < 9; beat++) {
            check.same("state on " + beat, hall.state(A, beat), 1 << 9 - beat);
        }
        // earlier beats are those of earlier rounds, too
        hall = check.hall(1, "row A=009;");
        check.same("009 on 0", hall.state(A, 0), 4 + 32 + 256);
        check.same("009 on 1", hall.state(A, 1), 2 + 16 + 128);
        check.same("009 on 2", hall.state(A, 2), 1 + 8 + 64);
        check.same("24 BEATS on the last", check.hall(1, "row A=1*9 1*9 1*6;").state(A, 23), 1);
    }

    private static void steps() {
        check.sentence("without bit 0 HEIGHT 0 alone; with it a HEIGHT h of 1 .. 9; all bits go one lower,"
                + " then bit h - 1 comes, that must not be there.");
        JugglingHall hall = new JugglingHall(1);
        for (int h = 2; h <= 9; h++) {
            check.sameText("with bit 0 to bit " + (h - 1), way(hall, 1, 1 << h - 1), "" + h);
            check.sameText("without bit 0 from bit " + (h - 1), way(hall, 1 << h - 1, 1), "0".repeat(h - 1));
        }
        // from 510 bit 0 must come first; the one bit that is free behind it is bit 8
        check.sameText("way(510, 255)", way(hall, 510, 255), "0");
        check.sameText("way(255, 511 - 128)", way(hall, 255, 511 - 128), "9");
        check.sameText("way(255, 511 - 1)", way(hall, 255, 510), "99999999");
        // a height of 1 puts the bit back to 0: of 5 (bits 0, 2) behind it 3 is left
        check.sameText("way(5, 3)", way(hall, 5, 3), "1");
    }

    private static void fewestSteps() {
        check.sentence("WAY from STATE to STATE: the fewest steps; of like ones the first by HEIGHTS,"
                + " one behind the other.");
        JugglingHall hall = new JugglingHall(1);
        check.same("to itself: none", hall.way(3, 3, NONE), 0);
        check.same("0 to itself: none", hall.way(0, 0, NONE), 0);
        check.same("511 to itself: none", hall.way(511, 511, NONE), 0);
        check.sameText("44, not 53", way(hall, 3, 12), "44");
        check.sameText("555, not 564, 645, ..", way(hall, 7, 28), "555");
        check.sameText("one step, not three", way(hall, 7, 11), "4");
        check.sameText("one behind the other", way(hall, 2, 4), "03");
        check.sameText("one behind the other", way(hall, 4, 256), "009");
        check.same("no way to fewer bits", hall.way(7, 3, NONE), NONE);
        check.same("no way from 0", hall.way(0, 1, NONE), NONE);
    }

    private static void loops() {
        check.sentence("LOOPS: steps that come back to their STATE with no STATE twice: how many there are with so many"
                + " bits, no HEIGHT above H, of so many steps (those that are one another turned are one).");
        JugglingHall hall = new JugglingHall(1);
        int[] two = {1, 1, 1, 0, 0, 0, 0, 0, 0, 0};
        for (int steps = 1; steps <= 10; steps++) {
            check.same("two bits to 3", hall.loops(2, 3, steps), two[steps - 1]);
            check.same("no bits", hall.loops(0, 5, steps), steps == 1 ? 1 : 0);
            check.same("all bits", hall.loops(5, 5, steps), steps == 1 ? 1 : 0);
            check.same("more bits than there are", hall.loops(4, 3, steps), 0);
            check.same("one bit to 5", hall.loops(1, 5, steps), steps <= 5 ? 1 : 0);
            check.same("one bit to 1", hall.loops(1, 1, steps), steps == 1 ? 1 : 0);
        }
        // four bits to 5: the free beat goes round: 4, 53, 552, 5551, 55550
        for (int steps = 1; steps <= 6; steps++) {
            check.same("four bits to 5", hall.loops(4, 5, steps), steps <= 5 ? 1 : 0);
        }
    }

    private static void longestScore() {
        check.sentence("SCORE: HEIGHTS one behind the other (300 at most).");
        JugglingHall hall = check.hall(1, "row A=333333;row B=3;row C=4;");
        check.same("300 at once", hall.add(A, 50), 300);
        check.same("301", hall.add(B, 1), NONE);
        check.same("the last", hall.score(299, 0), 3);
        check.same("behind the last", hall.score(300, 0), NONE);
        check.same("clear", hall.clear(), 300);
        check.same("294", hall.add(A, 49), 294);
        check.same("306", hall.add(A, 2), NONE);
        check.same("301", hall.add(B, 7), NONE);
        check.same("299", hall.add(B, 5), 299);
        check.same("300", hall.add(B, 1), 300);
        hall = check.hall(1, "row A=3*9 3*9 3*6;");
        check.same("12 times 24", hall.add(A, 12), 288);
        check.same("clear", hall.clear(), 288);
        check.same("13 times 24", hall.add(A, 13), NONE);
        check.same("nothing is done", hall.about(4), 0);
    }

    private static void firstAndFurther() {
        check.sentence("with the first one its ROW so many times; with each further one the WAY from the STATE there"
                + " to that of its ROW on BEAT 0, then the ROW.");
        JugglingHall hall = check.hall(1, "row A=51;row B=3;row C=15;");
        check.same("the first one", hall.add(A, 2), 4);
        check.same("the same one further: no step", hall.add(A, 1), 6);
        check.same("another one", hall.add(B, 2), 9);
        check.same("and back", hall.add(A, 1), 12);
        check.sameText("the score", score(hall), "515151" + "-2" + "33" + "-4" + "51");
        hall.clear();
        check.same("behind a clear it is the first one", hall.add(C, 1), 2);
        check.sameText("the score", score(hall), "15");
        // from 21 (15 on beat 0) to 11 (51 on beat 0) one step of 1
        check.same("a further one", hall.add(A, 1), 5);
        check.sameText("the score", score(hall), "15-151");
    }

    private static void likeBalls() {
        check.sentence("All of like BALLS.");
        JugglingHall hall = check.hall(1, "row A=3;row B=4;row C=0;");
        check.same("add", hall.add(A, 1), 1);
        check.same("one more", hall.add(B, 1), NONE);
        check.same("none", hall.add(C, 1), NONE);
        check.same("nothing is done", hall.about(4), 1);
        hall.clear();
        check.same("behind a clear others may come", hall.add(C, 2), 2);
        check.same("none and three", hall.add(A, 1), NONE);
        check.same("none and none", hall.add(C, 1), 3);
    }

    private static void marksMadeWhole() {
        check.sentence("MADE WHOLE: SEEN marks, each ? being a HEIGHT 0 .. 9: how many PLAIN rows there are"
                + " that are GOOD with so many BALLS");
        for (int balls = 0; balls <= 9; balls++) {
            JugglingHall hall = check.hall(1, "seen ?;");
            check.same("? with " + balls, hall.whole(balls, NONE), 1);
            check.sameText("? with " + balls, whole(hall, balls), "" + balls);
            // two that land apart are an even or odd number each: 2b = h + k with like ones
            int due = 2 * Math.min(balls, 9 - balls) + 1;
            check.same("?? with " + balls, check.hall(1, "seen ??;").whole(balls, NONE), due);
            check.same("9 with " + balls, check.hall(1, "seen 9;").whole(balls, NONE), balls == 9 ? 1 : 0);
        }
        check.same("no ? and not GOOD", check.hall(1, "seen 432;").whole(3, NONE), 0);
        check.same("no ? and GOOD", check.hall(1, "seen 531;").whole(3, NONE), 1);
        check.same("seven", check.hall(1, "seen 9999999;").whole(9, NONE), 1);
        check.same("seven open without balls", check.hall(1, "seen ???????;").whole(0, NONE), 1);
        check.same("seven open with the most", check.hall(1, "seen ???????;").whole(9, NONE), 1);
        JugglingHall hall = check.hall(1, "seen ?;");
        check.taken(hall, "seen ???????;");
        for (int balls = 0; balls <= 9; balls++) {
            hall.look(2);
            int seven = hall.whole(balls, NONE);
            check.same("asked again", hall.whole(balls, NONE), seven);
            hall.look(1);
            check.same("of one behind seven", hall.whole(balls, NONE), 1);
            check.same("asked again", hall.whole(balls, NONE), 1);
        }
    }

    private static void firstByHeights() {
        check.sentence("the first by HEIGHTS.");
        check.sameText("?? with 2", whole(check.hall(1, "seen ??;"), 2), "04");
        check.sameText("?? with 5", whole(check.hall(1, "seen ??;"), 5), "19");
        check.sameText("?? with 9", whole(check.hall(1, "seen ??;"), 9), "99");
        check.sameText("?1? with 3", whole(check.hall(1, "seen ?1?;"), 3), "018");
        check.sameText("none such", whole(check.hall(1, "seen 43?;"), 3), "---");
        check.sameText("seven", whole(check.hall(1, "seen ???????;"), 1), "0000007");
        check.sameText("seven with none", whole(check.hall(1, "seen ???????;"), 0), "0000000");
        check.sameText("seven with the most", whole(check.hall(1, "seen ???????;"), 9), "9999999");
        check.sameText("a MARK of 0 stays", whole(check.hall(1, "seen 0?0;"), 1), "030");
    }

    private static void dropped() {
        check.sentence("DROPPED: a ROW without some CYCLES is told for a letter.");
        JugglingHall hall = check.hall(1, "row A=531;");
        check.same("none of them", hall.drop(A, 0, B), 2);
        check.sameText("as it was", Check.heights(hall, B, 0), "531");
        check.same("all of them", hall.drop(A, 3, C), 3);
        check.sameText("beats without throws", Check.heights(hall, C, 0), "000");
        check.same("its BALLS", hall.good(C, 3), 0);
        check.same("from a row without cycles", hall.drop(C, 0, C), 4);
        hall = check.hall(2, "row A=<[42]|3>;");
        check.same("the first of two hands", hall.drop(A, 1, B), 2);
        check.sameText("the other one is number 0", Check.throwsOf(hall, B), "<2p0|3p1>");
        hall = check.hall(3, ONE_CYCLE);
        check.same("none of the most THROWS", hall.drop(A, 0, B), 2);
        check.sameText("as they were", Check.throwsOf(hall, B), Check.throwsOf(hall, A));
        check.same("all of the most THROWS", hall.drop(A, 1, B), 3);
        check.sameText("none is left", Check.throwsOf(hall, B), "<0|0|0>".repeat(24));
    }

    private static void oneTurned() {
        check.sentence("ONE TURNED: the least d by which the second letter's ROW, turned d, is the first one's.");
        String zeros = "0*9 0*9 0*5";
        JugglingHall hall = check.hall(1, "row A=1 " + zeros + ";row B=" + zeros + " 1;"
                + "row C=(01)*9(01)*3;row D=turn 1(C);row E=0;row F=00;");
        int[][] due = {{0, 1, 23}, {1, 0, 1}, {0, 0, 0}, {1, 1, 0}, {2, 3, 1}, {3, 2, 1}, {0, 2, NONE}, {4, 4, 0},
            {4, 5, NONE}, {5, 4, NONE}, {5, 5, 0}};
        for (int[] a : due) {
            check.same("turned(" + a[0] + ", " + a[1] + ")", hall.turned(a[0], a[1]), a[2]);
        }
        hall = check.hall(1, "row A=531;row B=231;row C=532;");
        check.same("all but the first BEAT", hall.turned(A, B), NONE);
        check.same("all but the last BEAT", hall.turned(A, C), NONE);
        hall = check.hall(2, "row A=<3p1|[12]><3|0>;row B=<3|0><3p1|[12]>;"
                + "row C=<3|0><3p0|[12]>;row D=<3|0><3p1|[02]>;");
        check.same("all THROWS of all JUGGLERS", hall.turned(A, B), 1);
        check.same("but for to whom", hall.turned(A, C), NONE);
        check.same("but for THROW 1", hall.turned(A, D), NONE);
    }
}
