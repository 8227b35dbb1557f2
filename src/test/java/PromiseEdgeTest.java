/** The promises 1 to 24: each sentence that names a boundary has its own test here, with its words. */
public final class PromiseEdgeTest {
    private static final int NONE = JugglingHall.NONE;
    private static final int MIN = Integer.MIN_VALUE;
    private static final int MAX = Integer.MAX_VALUE;
    private static final int A = 0;
    private static final int B = 1;
    private static final int C = 2;
    private static final int H = 7;
    /** With the rows that most tests ask for, D to H have none. */
    private static final int[] NO_ROWS = {3, 7, -1, 8, MIN, MAX};

    private static Check check;

    public static void main(String[] args) {
        check = new Check("PromiseEdgeTest");
        newObject();
        feed();
        end();
        text();
        fault();
        look();
        beats();
        thrown();
        good();
        cycles();
        cycle();
        cycleOf();
        caught();
        state();
        way();
        loops();
        clear();
        add();
        score();
        seen();
        whole();
        drop();
        turned();
        about();
        check.finish();
    }

    /** A is good with two cycles, B isn't good, C isn't plain. */
    private static JugglingHall usual() {
        return check.hall(1, "row A=531;row B=432;row C=[31];");
    }

    private static JugglingHall full() {
        JugglingHall hall = usual();
        for (int time = 2; time <= 60; time++) {
            check.same("text", hall.text(), time);
        }
        return hall;
    }

    private static void newObject() {
        check.sentence("JUGGLERS (1 to 3; others: the nearest of these).");
        int[][] due = {{MIN, 1}, {-1, 1}, {0, 1}, {1, 1}, {2, 2}, {3, 3}, {4, 3}, {MAX, 3}};
        for (int[] one : due) {
            check.same("JUGGLERS of " + one[0], new JugglingHall(one[0]).about(0), one[1]);
        }
        check.taken(new JugglingHall(0), "row A=3;");
        check.taken(new JugglingHall(4), "row A=<3|3|3>;");
        check.sentence("No ROWS; TIME 0.");
        JugglingHall hall = new JugglingHall(2);
        for (int letter = 0; letter < 8; letter++) {
            check.same("beats", hall.beats(letter), NONE);
        }
        check.same("letters with a ROW", hall.about(5), 0);
        check.same("TIME", hall.about(1), 0);
    }

    private static void feed() {
        check.sentence("Twenty bytes come behind the tape, the highest of a first: how many it has.");
        JugglingHall hall = new JugglingHall(1);
        check.same("on an empty tape", hall.feed(0x726f7720, 0x413d3132, 0x33343536, 0x37383930, 0x39383720), 20);
        check.same("behind it", hall.feed(0x3635343b, 0x726f7720, 0x423d333b, 0x20202020, 0x20202020), 40);
        check.same("text", hall.text(), 1);
        check.sameText("A", Check.heights(hall, A, 0), "1234567890987654");
        check.sameText("B", Check.heights(hall, B, 0), "3");
        check.same("bytes above 127", hall.feed(-1, -1, -1, -1, MIN), 20);
        check.same("text", hall.text(), NONE);
        check.same("place", hall.fault(1), 0);
        check.sentence("NONE, and none come, if there would be more than 300.");
        for (int left = 280; left <= 300; left++) {
            hall = new JugglingHall(1);
            for (int n = 20; n <= 300; n += 20) {
                check.same("feed", hall.feed(0x20202020, 0x20202020, 0x20202020, 0x20202020, 0x20202020), n);
            }
            check.same("end", hall.end(left), left);
            check.same("feed behind " + left, hall.feed(0, 0, 0, 0, 0), left == 280 ? 300 : NONE);
            check.same("bytes", hall.about(3), left == 280 ? 300 : left);
            check.same("text: none came", hall.text(), left == 280 ? NONE : 1);
        }
    }

    private static void end() {
        check.sentence("The tape has its first n bytes alone: n.");
        JugglingHall hall = new JugglingHall(1);
        check.same("end(0) of an empty tape", hall.end(0), 0);
        hall.feed(0x726f7720, 0x413d333b, 0x23232323, 0, 0);
        check.same("all of them", hall.end(20), 20);
        check.same("eight", hall.end(8), 8);
        check.same("text", hall.text(), 1);
        hall.feed(0x23232323, 0, 0, 0, 0);
        check.same("none of them", hall.end(0), 0);
        check.same("bytes", hall.about(3), 0);
        check.same("text", hall.text(), 2);
        hall.feed(0x726f7720, 0x413d333b, 0x23232323, 0, 0);
        hall.end(7);
        hall.feed(0x2a323b20, 0x20202020, 0x20202020, 0x20202020, 0x20202020);
        check.same("what comes then comes behind the first seven", hall.text(), 3);
        check.same("row A=3*2;", hall.beats(A), 2);
        check.sentence("NONE, and nothing is done, if it has not so many, or n is below 0.");
        hall = new JugglingHall(1);
        check.same("end(1) of an empty tape", hall.end(1), NONE);
        hall.feed(0x20202020, 0x20202020, 0x20202020, 0x20202020, 0x20202020);
        for (int n : new int[] {21, 300, 301, MAX, -1, MIN}) {
            check.same("end(" + n + ")", hall.end(n), NONE);
            check.same("bytes", hall.about(3), 20);
        }
        hall.end(19);
        check.same("end(20) of 19", hall.end(20), NONE);
    }

    private static void text() {
        check.sentence("The tape (empty then) is a text that is told: the TIME.");
        JugglingHall hall = new JugglingHall(1);
        check.same("an empty tape", hall.text(), 1);
        Check.feed(hall, "row A=3;");
        check.same("a clause", hall.text(), 2);
        check.same("the tape is empty then", hall.about(3), 0);
        check.same("the next text is without it", hall.text(), 3);
        check.sentence("NONE: it has a FAULT; or (the tape stays) the TIME is 60.");
        Check.feed(hall, "row A=4;row");
        check.same("a FAULT", hall.text(), NONE);
        check.same("the tape is empty then", hall.about(3), 0);
        check.same("TIME", hall.about(1), 3);
        for (int time = 4; time <= 60; time++) {
            check.same("text", hall.text(), time);
        }
        Check.feed(hall, "row A=4;");
        check.same("at 60", hall.text(), NONE);
        check.same("the tape stays", hall.about(3), 8);
        check.same("again", hall.text(), NONE);
        check.same("the tape stays", hall.about(3), 8);
        check.same("it isn't read", hall.fault(0), 0);
        check.same("more comes behind it", hall.feed(0, 0, 0, 0, 0), 28);
        check.sameText("A", Check.heights(hall, A, 0), "3");
        check.same("TIME", hall.about(1), 60);
        hall.end(0);
        check.same("an empty tape at 60", hall.text(), NONE);
    }

    private static void fault() {
        check.sentence("Of the latest text that was read: 0 its FAULT (0 without), 1 its place (NONE without).");
        JugglingHall hall = new JugglingHall(1);
        check.told(hall, "row A=B;", 6, 6);
        check.told(hall, "row", 1, 3);
        check.taken(hall, "row A=3;");
        check.told(hall, "row A=3*0;", 2, 8);
        check.same("a drop is no text", hall.drop(A, 0, B), 2);
        check.same("fault(0)", hall.fault(0), 2);
        check.same("fault(1)", hall.fault(1), 8);
        Check.feed(hall, "#");
        check.same("a tape that isn't read yet", hall.fault(0), 2);
        hall.end(0);
        check.same("an empty text", hall.text(), 3);
        check.same("fault(0)", hall.fault(0), 0);
        check.same("fault(1)", hall.fault(1), NONE);
        check.sentence("NONE for others, and ahead of any.");
        check.told(hall, "row A=3*0;", 2, 8);
        for (int what : new int[] {-1, 2, MIN, MAX}) {
            check.same("fault(" + what + ")", hall.fault(what), NONE);
        }
        hall = new JugglingHall(1);
        check.same("fault(0) ahead of any", hall.fault(0), NONE);
        check.same("fault(1) ahead of any", hall.fault(1), NONE);
        Check.feed(hall, "#");
        check.same("ahead of any that was read", hall.fault(0), NONE);
    }

    private static void look() {
        check.sentence("THE LOOK is at a TIME (0 to the latest): true.");
        JugglingHall hall = new JugglingHall(1);
        check.same("look(0) at first", hall.look(0), true);
        hall = full();
        for (int time : new int[] {60, 59, 1, 0, 60}) {
            check.same("look(" + time + ")", hall.look(time), true);
            check.same("THE LOOK", hall.about(2), time);
        }
        check.sentence("False for others.");
        for (int time : new int[] {61, -1, MIN, MAX}) {
            check.same("look(" + time + ")", hall.look(time), false);
            check.same("THE LOOK stays", hall.about(2), 60);
        }
        hall = usual();
        check.same("behind the latest", hall.look(2), false);
        check.same("THE LOOK stays", hall.about(2), 1);
        check.same("at first", new JugglingHall(1).look(1), false);
    }

    private static void beats() {
        check.sentence("BEATS of THE ROW. NONE: there is none, and for others.");
        JugglingHall hall = usual();
        check.same("beats(A)", hall.beats(A), 3);
        check.same("of one that isn't GOOD", hall.beats(B), 3);
        check.same("of one that isn't PLAIN", hall.beats(C), 1);
        for (int letter : NO_ROWS) {
            check.same("beats(" + letter + ")", hall.beats(letter), NONE);
        }
        hall.look(0);
        check.same("ahead of its telling", hall.beats(A), NONE);
    }

    private static void thrown() {
        check.sentence("Of the k-th THROW (0, 1) on a BEAT by a JUGGLER: HEIGHT (what 0; 0: there is none),"
                + " to whom (1; NONE without).");
        JugglingHall hall = check.hall(2, "row A=<0|3p0><[12]|0>;");
        int[][] due = {{0, 0, 0, 0, NONE}, {0, 0, 1, 0, NONE}, {0, 1, 0, 3, 0}, {0, 1, 1, 0, NONE}, {1, 0, 0, 2, 0},
            {1, 0, 1, 1, 0}, {1, 1, 0, 0, NONE}};
        for (int[] a : due) {
            check.same("HEIGHT", hall.thrown(A, a[0], a[1], a[2], 0), a[3]);
            check.same("to whom", hall.thrown(A, a[0], a[1], a[2], 1), a[4]);
        }
        check.sentence("thrown: NONE for others.");
        for (int letter : NO_ROWS) {
            check.same("letter " + letter, hall.thrown(letter, 0, 0, 0, 0), NONE);
        }
        for (int other : new int[] {-1, 2, MIN, MAX}) {
            check.same("BEAT " + other, hall.thrown(A, other, 1, 0, 0), NONE);
            check.same("JUGGLER " + other, hall.thrown(A, 0, other, 0, 0), NONE);
            check.same("k " + other, hall.thrown(A, 0, 1, other, 0), NONE);
            check.same("what " + other, hall.thrown(A, 0, 1, 0, other), NONE);
        }
        check.same("the last of 24", check.hall(1, "row A=1*9 1*9 1*5 7;").thrown(A, 23, 0, 0, 0), 7);
        check.same("behind 24", check.hall(1, "row A=1*9 1*9 1*5 7;").thrown(A, 24, 0, 0, 0), NONE);
    }

    private static void good() {
        check.sentence("GOOD (1, 0; what 0), its BAD PLACE: BEAT (1), JUGGLER (2; NONE: it is GOOD),"
                + " BALLS (3; NONE: it isn't), PLAIN (4; 1, 0).");
        JugglingHall hall = usual();
        int[][] due = {{1, NONE, NONE, 3, 1}, {0, 0, 0, NONE, 1}, {1, NONE, NONE, 4, 0}};
        for (int letter = A; letter <= C; letter++) {
            for (int what = 0; what < 5; what++) {
                check.same("good(" + letter + ", " + what + ")", hall.good(letter, what), due[letter][what]);
            }
        }
        check.sentence("good: NONE for others.");
        for (int letter : NO_ROWS) {
            for (int what = 0; what < 5; what++) {
                check.same("good(" + letter + ", " + what + ")", hall.good(letter, what), NONE);
            }
        }
        for (int what : new int[] {-1, 5, MIN, MAX}) {
            check.same("good(A, " + what + ")", hall.good(A, what), NONE);
            check.same("good(B, " + what + ")", hall.good(B, what), NONE);
        }
    }

    private static void cycles() {
        check.sentence("How many CYCLES. NONE for others, and if it isn't GOOD.");
        JugglingHall hall = usual();
        check.same("cycles(A)", hall.cycles(A), 2);
        check.same("it isn't GOOD", hall.cycles(B), NONE);
        check.same("it isn't PLAIN", hall.cycles(C), 2);
        check.same("without THROWS", check.hall(1, "row A=000;").cycles(A), 0);
        for (int letter : NO_ROWS) {
            check.same("cycles(" + letter + ")", hall.cycles(letter), NONE);
        }
        hall = check.hall(3, "row A=<[99]|[99]|[99]>*9;");
        check.same("as many as THROWS", hall.cycles(A), 54);
        hall = check.hall(3, "row A=<[99]|[99]|[99]>*9<[99]|[99]|[99]>*9;");
        check.same("half as many as THROWS", hall.cycles(A), 54);
        hall = check.hall(3, "row A=<[88]|[88]|[88]>*8<[88]|[88]|[88]>*8<[88]|[88]|[88]>*8;");
        check.same("24 BEATS with six THROWS each", hall.cycles(A), 48);
    }

    private static void cycle() {
        check.sentence("Of a CYCLE: 0 how many THROWS, 1 PERIOD, 2 BALLS, 3, 4, 5 BEAT, JUGGLER, number"
                + " of its first THROW. NONE likewise.");
        JugglingHall hall = usual();
        int[][] due = {{2, 6, 2, 0, 0, 0}, {1, 3, 1, 1, 0, 0}};
        for (int cycle = 0; cycle < 2; cycle++) {
            for (int what = 0; what < 6; what++) {
                check.same("cycle(A, " + cycle + ", " + what + ")", hall.cycle(A, cycle, what), due[cycle][what]);
            }
        }
        check.same("number 1", hall.cycle(C, 1, 5), 1);
        for (int what = 0; what < 6; what++) {
            for (int cycle : new int[] {-1, 2, MIN, MAX}) {
                check.same("cycle(A, " + cycle + ", " + what + ")", hall.cycle(A, cycle, what), NONE);
            }
            for (int letter : NO_ROWS) {
                check.same("cycle(" + letter + ", 0, " + what + ")", hall.cycle(letter, 0, what), NONE);
            }
            check.same("it isn't GOOD", hall.cycle(B, 0, what), NONE);
            check.same("without THROWS", check.hall(1, "row A=000;").cycle(A, 0, what), NONE);
        }
        for (int what : new int[] {-1, 6, MIN, MAX}) {
            check.same("cycle(A, 0, " + what + ")", hall.cycle(A, 0, what), NONE);
        }
    }

    private static void cycleOf() {
        check.sentence("The CYCLE of a THROW. NONE if there is none such, and likewise.");
        JugglingHall hall = usual();
        check.same("the first THROW", hall.cycleOf(A, 0, 0, 0), 0);
        check.same("the last THROW", hall.cycleOf(A, 2, 0, 0), 0);
        check.same("number 1", hall.cycleOf(C, 0, 0, 1), 1);
        check.same("there is no number 1", hall.cycleOf(A, 0, 0, 1), NONE);
        check.same("there is no number 0", check.hall(1, "row A=20;").cycleOf(A, 1, 0, 0), NONE);
        check.same("it isn't GOOD", hall.cycleOf(B, 0, 0, 0), NONE);
        for (int letter : NO_ROWS) {
            check.same("letter " + letter, hall.cycleOf(letter, 0, 0, 0), NONE);
        }
        for (int beat : new int[] {-1, 3, MIN, MAX}) {
            check.same("BEAT " + beat, hall.cycleOf(A, beat, 0, 0), NONE);
        }
        for (int other : new int[] {-1, 1, MIN, MAX}) {
            check.same("JUGGLER " + other, hall.cycleOf(A, 0, other, 0), NONE);
        }
        for (int k : new int[] {-1, 2, MIN, MAX}) {
            check.same("number " + k, hall.cycleOf(C, 0, 0, k), NONE);
        }
    }

    private static void caught() {
        check.sentence("Of a THROW on BEAT t (0 .. 999) PLAYED: whence it comes: 0 BEAT, 1 JUGGLER, 2 number"
                + " (NONE: a ball of the start), 3 its BALL.");
        JugglingHall hall = check.hall(2, "row A=<1p1|1p0>;row B=<3p1|0>;");
        int[][] due = {{0, NONE, NONE, NONE, 0}, {1, 0, 1, 0, 1}, {998, 997, 1, 0, 0}, {999, 998, 1, 0, 1}};
        for (int[] a : due) {
            for (int what = 0; what < 4; what++) {
                String call = "caught(A, " + a[0] + ", 0, 0, " + what + ")";
                check.same(call, hall.caught(A, a[0], 0, 0, what), a[what + 1]);
            }
        }
        check.sentence("caught: NONE if there is none such, and likewise.");
        for (int what = 0; what < 4; what++) {
            for (int t : new int[] {-1, 1000, MIN, MAX}) {
                check.same("BEAT " + t, hall.caught(A, t, 0, 0, what), NONE);
            }
            for (int other : new int[] {-1, 2, MIN, MAX}) {
                check.same("JUGGLER " + other, hall.caught(A, 9, other, 0, what), NONE);
                check.same("number " + other, hall.caught(A, 9, 0, other, what), NONE);
            }
            check.same("there is no number 1", hall.caught(A, 9, 0, 1, what), NONE);
            check.same("it isn't GOOD", hall.caught(B, 9, 0, 0, what), NONE);
            for (int letter : NO_ROWS) {
                check.same("letter " + letter, hall.caught(letter, 9, 0, 0, what), NONE);
            }
        }
        for (int what : new int[] {-1, 4, MIN, MAX}) {
            check.same("what " + what, hall.caught(A, 9, 0, 0, what), NONE);
        }
        check.same("no THROW on the BEAT", check.hall(1, "row A=20;").caught(A, 9, 0, 0, 3), NONE);
    }

    private static void state() {
        check.sentence("STATE on a BEAT. NONE for others, and if it isn't PLAIN and GOOD.");
        JugglingHall hall = usual();
        check.same("the first BEAT", hall.state(A, 0), 7);
        check.same("the last BEAT", hall.state(A, 2), 13);
        check.same("it isn't GOOD", hall.state(B, 0), NONE);
        check.same("it isn't PLAIN", hall.state(C, 0), NONE);
        check.same("two JUGGLERS", check.hall(2, "row A=<3|0>;").state(A, 0), NONE);
        for (int beat : new int[] {-1, 3, MIN, MAX}) {
            check.same("BEAT " + beat, hall.state(A, beat), NONE);
        }
        for (int letter : NO_ROWS) {
            check.same("letter " + letter, hall.state(letter, 0), NONE);
        }
    }

    private static void way() {
        check.sentence("WAY (STATES 0 .. 511): how many steps (i NONE), the i-th HEIGHT.");
        JugglingHall hall = new JugglingHall(1);
        check.same("0 to 0", hall.way(0, 0, NONE), 0);
        check.same("511 to 511", hall.way(511, 511, NONE), 0);
        check.same("256 to 1", hall.way(256, 1, NONE), 8);
        check.same("the first HEIGHT", hall.way(1, 256, 0), 9);
        check.same("the last HEIGHT", hall.way(256, 1, 7), 0);
        check.same("510 to 511 - 256", hall.way(510, 255, NONE), 1);
        check.sentence("way: NONE if there is none such, and for others.");
        check.same("other bits", hall.way(7, 3, NONE), NONE);
        check.same("other bits", hall.way(3, 7, 0), NONE);
        check.same("0 to 1", hall.way(0, 1, NONE), NONE);
        check.same("behind the last HEIGHT", hall.way(256, 1, 8), NONE);
        check.same("no HEIGHT at all", hall.way(7, 7, 0), NONE);
        for (int i : new int[] {-2, 1, MIN, MAX}) {
            check.same("i " + i, hall.way(1, 256, i), NONE);
        }
        for (int other : new int[] {-1, 512, 513, MIN, MAX}) {
            check.same("from " + other, hall.way(other, 1, NONE), NONE);
            check.same("to " + other, hall.way(1, other, NONE), NONE);
            check.same("from and to " + other, hall.way(other, other, NONE), NONE);
        }
    }

    private static void loops() {
        check.sentence("LOOPS: bits 0 .. 5, H 1 .. 5 (STATES of bits 0 to H - 1 alone), steps 1 .. 10.");
        JugglingHall hall = new JugglingHall(1);
        check.same("bits 0", hall.loops(0, 1, 1), 1);
        check.same("bits 5", hall.loops(5, 5, 1), 1);
        check.same("H 1", hall.loops(1, 1, 1), 1);
        check.same("H 5", hall.loops(1, 5, 5), 1);
        check.same("H 4", hall.loops(1, 4, 5), 0);
        check.same("bits above H", hall.loops(5, 4, 1), 0);
        check.same("bits above 1", hall.loops(2, 1, 1), 0);
        // of the ten states with three bits no loop has more than eight
        check.same("steps 8", hall.loops(3, 5, 8), 1);
        check.same("steps 9", hall.loops(3, 5, 9), 0);
        check.same("steps 10", hall.loops(3, 5, 10), 0);
        check.sentence("loops: NONE for others.");
        for (int other : new int[] {-1, 6, MIN, MAX}) {
            check.same("bits " + other, hall.loops(other, 5, 1), NONE);
        }
        for (int other : new int[] {0, -1, 6, MIN, MAX}) {
            check.same("H " + other, hall.loops(0, other, 1), NONE);
        }
        for (int other : new int[] {0, -1, 11, MIN, MAX}) {
            check.same("steps " + other, hall.loops(0, 5, other), NONE);
        }
    }

    private static void clear() {
        check.sentence("The SCORE is empty: how many HEIGHTS it had.");
        JugglingHall hall = check.hall(1, "row A=333333;");
        check.same("of an empty one", hall.clear(), 0);
        hall.add(A, 50);
        check.same("of a full one", hall.clear(), 300);
        check.same("HEIGHTS", hall.about(4), 0);
        check.same("the first HEIGHT", hall.score(0, 0), NONE);
        check.same("again", hall.clear(), 0);
        check.same("it takes 300 again", hall.add(A, 50), 300);
    }

    private static void add() {
        check.sentence("A letter is added to the SCORE, so many times (1 .. 50): how many HEIGHTS it has.");
        JugglingHall hall = check.hall(1, "row A=531;row B=432;row C=[31];row H=3;");
        check.same("once", hall.add(A, 1), 3);
        check.same("50 times", hall.add(H, 50), 53);
        check.sentence("NONE for others, not PLAIN or GOOD, other BALLS, or above 300: nothing is done.");
        for (int times : new int[] {0, -1, 51, MIN, MAX}) {
            refusedAdd(hall, H, times);
        }
        for (int letter : new int[] {3, 6, -1, 8, MIN, MAX}) {
            refusedAdd(hall, letter, 1);
        }
        refusedAdd(hall, B, 1);
        refusedAdd(hall, C, 1);
        hall.look(0);
        refusedAdd(hall, A, 1);
        check.taken(hall, "row D=4;row E=3*9 3*9 3*6;row F=51;");
        refusedAdd(hall, 3, 1);
        check.same("53 + 240", hall.add(4, 10), 293);
        refusedAdd(hall, 4, 1);
        refusedAdd(hall, H, 8);
        // with its step of 4 it would be 293 + 1 + 8
        refusedAdd(hall, 5, 4);
        check.same("293 + 1 + 6", hall.add(5, 3), 300);
        refusedAdd(hall, 5, 1);
        JugglingHall two = check.hall(2, "row A=<3|3>;");
        check.same("two JUGGLERS", two.add(A, 1), NONE);
    }

    private static void refusedAdd(JugglingHall hall, int letter, int times) {
        int had = hall.about(4);
        int last = hall.score(had - 1, 0);
        check.same("add(" + letter + ", " + times + ")", hall.add(letter, times), NONE);
        check.same("nothing is done", hall.about(4), had);
        check.same("the last HEIGHT", hall.score(had - 1, 0), last);
        check.same("behind it", hall.score(had, 0), NONE);
    }

    private static void score() {
        check.sentence("Of the i-th HEIGHT of the SCORE: it (what 0), the letter whose ROW it is of"
                + " (1; NONE: of a WAY).");
        JugglingHall hall = check.hall(1, "row A=51;row H=3;");
        hall.add(A, 1);
        hall.add(H, 1);
        int[][] due = {{5, A}, {1, A}, {2, NONE}, {3, H}};
        for (int i = 0; i < 4; i++) {
            check.same("score(" + i + ", 0)", hall.score(i, 0), due[i][0]);
            check.same("score(" + i + ", 1)", hall.score(i, 1), due[i][1]);
        }
        check.sentence("score: NONE if there is none such.");
        for (int i : new int[] {-1, 4, 299, 300, MIN, MAX}) {
            check.same("score(" + i + ", 0)", hall.score(i, 0), NONE);
            check.same("score(" + i + ", 1)", hall.score(i, 1), NONE);
        }
        for (int what : new int[] {-1, 2, MIN, MAX}) {
            check.same("score(0, " + what + ")", hall.score(0, what), NONE);
        }
        check.same("of an empty one", new JugglingHall(1).score(0, 0), NONE);
    }

    private static void seen() {
        check.sentence("How many MARKS SEEN has (what 0), the i-th (10 + i; NONE: ?).");
        JugglingHall hall = new JugglingHall(1);
        check.same("none", hall.seen(0), 0);
        check.taken(hall, "seen 0?9;");
        int[] due = {0, NONE, 9};
        check.same("seen(0)", hall.seen(0), 3);
        for (int i = 0; i < 3; i++) {
            check.same("seen(" + (10 + i) + ")", hall.seen(10 + i), due[i]);
        }
        check.sentence("seen: NONE for others.");
        check.same("the last of seven", check.hall(1, "seen 1234567;").seen(16), 7);
        for (int what : new int[] {-1, 1, 9, 17, MIN, MAX}) {
            check.same("seen(" + what + ")", check.hall(1, "seen 1234567;").seen(what), NONE);
        }
        check.same("behind the last", hall.seen(13), NONE);
        check.same("without MARKS", new JugglingHall(1).seen(10), NONE);
        check.taken(hall, "seen 1234567;");
        check.taken(hall, "seen 1;");
        check.same("of an earlier SEEN", hall.seen(11), NONE);
    }

    private static void whole() {
        check.sentence("MADE WHOLE with so many BALLS (0 .. 9): how many (i NONE), the i-th HEIGHT of the first.");
        JugglingHall hall = check.hall(1, "seen ?;");
        for (int balls = 0; balls <= 9; balls++) {
            check.same("how many", hall.whole(balls, NONE), 1);
            check.same("its HEIGHT", hall.whole(balls, 0), balls);
        }
        check.same("the last HEIGHT of seven", check.hall(1, "seen ??????7;").whole(1, 6), 7);
        check.sentence("whole: NONE if there is none such, and for others.");
        for (int balls : new int[] {-1, 10, MIN, MAX}) {
            check.same("BALLS " + balls, hall.whole(balls, NONE), NONE);
            check.same("BALLS " + balls, hall.whole(balls, 0), NONE);
        }
        for (int i : new int[] {-2, 1, 7, MIN, MAX}) {
            check.same("i " + i, hall.whole(3, i), NONE);
        }
        hall = check.hall(1, "seen 432;");
        check.same("none is GOOD: how many", hall.whole(3, NONE), 0);
        check.same("none is GOOD: its HEIGHT", hall.whole(3, 0), NONE);
        hall = new JugglingHall(1);
        check.same("without MARKS", hall.whole(0, NONE), NONE);
        check.same("without MARKS", hall.whole(0, 0), NONE);
    }

    private static void drop() {
        check.sentence("the ROW of a letter without CYCLES (bits) is told for another (or the same) one: the TIME.");
        JugglingHall hall = usual();
        check.same("for another one", hall.drop(A, 1, H), 2);
        check.sameText("H", Check.heights(hall, H, 0), "030");
        check.same("for the same one", hall.drop(A, 2, A), 3);
        check.sameText("A", Check.heights(hall, A, 0), "501");
        check.same("for one that has a ROW", hall.drop(A, 0, B), 4);
        check.sameText("B", Check.heights(hall, B, 0), "501");
        hall.look(1);
        check.same("of THE ROW at THE LOOK", hall.drop(A, 3, A), 5);
        check.sameText("A", Check.heights(hall, A, 0), "000");
        check.sentence("NONE for others, not GOOD, or the TIME is 60.");
        hall = usual();
        int[][] others = {{A, 4, H}, {A, 7, H}, {A, 1 << 30, H}, {A, MIN, H}, {A, -1, H}, {A, MAX, H}, {A, 0, -1},
            {A, 0, 8}, {A, 0, MIN}, {A, 0, MAX}, {B, 0, H}, {B, 0, A}};
        for (int[] a : others) {
            check.same("drop(" + a[0] + ", " + a[1] + ", " + a[2] + ")", hall.drop(a[0], a[1], a[2]), NONE);
        }
        for (int letter : NO_ROWS) {
            check.same("drop(" + letter + ", 0, A)", hall.drop(letter, 0, A), NONE);
        }
        check.same("TIME", hall.about(1), 1);
        check.same("letters", hall.about(5), 3);
        bitsOfDrop();
        hall = full();
        check.same("at 60", hall.drop(A, 1, A), NONE);
        check.sameText("A", Check.heights(hall, A, 0), "531");
    }

    /** A row has 31 or 32 cycles, or more than bits are there. */
    private static void bitsOfDrop() {
        JugglingHall hall = check.hall(2, "row A=<[88]|[88]>*8;row B=<[88]|[88]>*7<[88]|8>;");
        check.same("32 CYCLES", hall.cycles(A), 32);
        check.same("31 CYCLES", hall.cycles(B), 31);
        check.same("bit 31 of 31", hall.drop(B, MIN, C), NONE);
        check.same("bits 0 to 31 of 31", hall.drop(B, -1, C), NONE);
        check.same("bits 0 to 30 of 31", hall.drop(B, MAX, C), 2);
        check.same("BALLS", hall.good(C, 3), 0);
        check.same("bit 31 of 32", hall.drop(A, MIN, C), 3);
        check.same("BALLS", hall.good(C, 3), 31);
        check.same("bits 0 to 31 of 32", hall.drop(A, -1, C), 4);
        check.same("BALLS", hall.good(C, 3), 0);
        hall = check.hall(2, "row A=<[99]|[99]>*9;");
        check.same("36 CYCLES", hall.cycles(A), 36);
        check.same("bits 0 to 31 of 36", hall.drop(A, -1, C), 2);
        check.same("BALLS", hall.good(C, 3), 4);
    }

    private static void turned() {
        check.sentence("ONE TURNED. NONE: they aren't, and for others.");
        JugglingHall hall = check.hall(1, "row A=531;row B=315;row C=533;");
        check.same("turned(A, A)", hall.turned(A, A), 0);
        check.same("turned(A, B)", hall.turned(A, B), 2);
        check.same("turned(B, A)", hall.turned(B, A), 1);
        check.same("they aren't", hall.turned(A, C), NONE);
        for (int letter : NO_ROWS) {
            check.same("turned(A, " + letter + ")", hall.turned(A, letter), NONE);
            check.same("turned(" + letter + ", A)", hall.turned(letter, A), NONE);
            check.same("turned(" + letter + ", " + letter + ")", hall.turned(letter, letter), NONE);
        }
        hall = check.hall(1, "row A=3;row B=33;row C=333;");
        check.same("fewer BEATS", hall.turned(A, B), NONE);
        check.same("more BEATS", hall.turned(C, B), NONE);
    }

    private static void about() {
        check.sentence("0 JUGGLERS, 1 TIME, 2 THE LOOK, 3 bytes of the tape, 4 HEIGHTS of the SCORE,"
                + " 5 letters with a ROW.");
        JugglingHall hall = full();
        hall.look(59);
        hall.add(A, 50);
        for (int n = 20; n <= 300; n += 20) {
            hall.feed(0, 0, 0, 0, 0);
        }
        int[] due = {1, 60, 59, 300, 150, 3};
        for (int what = 0; what < 6; what++) {
            check.same("about(" + what + ")", hall.about(what), due[what]);
        }
        hall.look(0);
        check.same("letters at TIME 0", hall.about(5), 0);
        check.sentence("about: NONE for others.");
        for (int what : new int[] {-1, 6, MIN, MAX}) {
            check.same("about(" + what + ")", hall.about(what), NONE);
        }
        check.sentence("`NONE = -1`: None.");
        check.same("NONE", JugglingHall.NONE, -1);
    }
}
