/** The terms II, texts: each sentence that names a boundary has its own test here, with its words. */
public final class TextEdgeTest {
    private static final int A = 0;
    private static final int B = 1;
    private static final int C = 2;
    private static final int D = 3;
    private static final String BEATS_24 = "3*9 3*9 3*6";
    private static final String BEATS_23 = "3*9 3*9 3*5";

    private static Check check;

    public static void main(String[] args) {
        check = new Check("TextEdgeTest");
        longestText();
        blanks();
        words();
        digits();
        clauses();
        letters();
        marks();
        sequences();
        times();
        lettersInSequences();
        groups();
        beats();
        hands();
        oneThrow();
        back();
        over();
        dual();
        turn();
        firstFault();
        placeOfAFault();
        placeOfTheEnd();
        leastFault();
        cannotStand();
        wrongDigit();
        tooDeep();
        tooLong();
        cannotChange();
        noRow();
        oneTelling();
        check.finish();
    }

    private static void longestText() {
        check.sentence("TEXTS of up to 300 bytes.");
        String clauses = "row A=1;".repeat(36);
        check.same("300 bytes", check.hall(1, "    " + clauses + "row H=9;").beats(7), 1);
        check.same("299 bytes", check.hall(1, "   " + clauses + "row H=9;").beats(7), 1);
        check.same("300 blanks", check.hall(1, " ".repeat(300)).about(1), 1);
        check.refused(1, "     " + clauses + "row H=9", 1, 300);
        check.refused(1, "    " + clauses + "row H=9#", 1, 299);
        check.refused(1, clauses + "row H=9 abcd", 1, 296);
    }

    private static void blanks() {
        check.sentence("TOKENS, blanks (32, 10) aside");
        check.row("\n\n 5 \n*\n 2 ( 3 p 0 ) \n turn\n1\n( [ 1\n2 ] ) ", "5532");
        check.same("nothing but blanks", check.hall(1, " \n \n").about(1), 1);
        int[] others = {0, 9, 11, 12, 13, 31, 33, 127, 128, 138, 160, 255};
        for (int sign : others) {
            check.refused(1, "row A=3" + (char) sign + ";", 1, 7);
        }
    }

    private static void words() {
        check.sentence("letters a .. z, A .. Z one behind the other (one TOKEN)");
        for (char sign : new char[] {'a', 'z', 'A', 'Z'}) {
            check.refused(1, "row" + sign + " A=1;", 1, 0);
            check.refused(1, sign + "row A=1;", 1, 0);
        }
        for (char sign : new char[] {'`', '{', '@', '[', '=', '1'}) {
            check.refused(1, "row" + sign + " A=1;", 1, 3);
        }
        check.refused(1, "ro w A=1;", 1, 0);
        check.refused(1, "rowA=1;", 1, 0);
        check.refused(1, "row A=3pA;", 1, 7);
        check.row("(3)over(1)", "31");
    }

    private static void digits() {
        check.sentence("each digit");
        check.row("0123456789", "0123456789");
        check.same("seven digits, seven MARKS", check.hall(1, "seen 0123456;").seen(0), 7);
        check.refused(1, "row A=/;", 1, 6);
        check.refused(1, "row A=:;", 1, 6);
        check.refused(1, "row A=turn 10(3);", 1, 12);
    }

    private static void clauses() {
        check.sentence("{CLAUSE}.");
        check.same("none", check.hall(1, "").about(1), 1);
        JugglingHall hall = check.hall(1, "row A=1;seen 1;row B=2;".repeat(13));
        check.same("39 of them are one telling", hall.about(1), 1);
        check.same("letters", hall.about(5), 2);
        check.refused(1, ";", 1, 0);
        check.refused(1, "row A=1;;", 1, 8);
    }

    private static void letters() {
        check.sentence("(LETTER: one TOKEN of A .. H)");
        check.same("A", check.hall(1, "row A=1;").beats(0), 1);
        check.same("H", check.hall(1, "row H=1;").beats(7), 1);
        for (String other : new String[] {"I", "Z", "a", "h", "AA", "AH", "@", "1", "row", "="}) {
            check.refused(1, "row " + other + "=1;", 1, 4);
        }
        for (String other : new String[] {"I", "Z", "a", "h", "AA", "AH", "@", "row", "seen", "="}) {
            check.refused(1, "row A=" + other + ";", 1, 6);
        }
    }

    private static void marks() {
        check.sentence("seen MARK {MARK} ; (MARK: a digit or ?; 7 at most)");
        check.same("one digit", check.hall(1, "seen 0;").seen(0), 1);
        check.same("one ?", check.hall(1, "seen ?;").seen(0), 1);
        check.same("seven", check.hall(1, "seen ?9?9?9?;").seen(0), 7);
        check.refused(1, "seen;", 1, 4);
        check.refused(1, "seen ?9?9?9?9;", 4, 12);
        check.refused(1, "seen A;", 1, 5);
        check.refused(1, "seen 3p0;", 1, 6);
        check.refused(2, "seen <3|3>;", 1, 5);
    }

    private static void sequences() {
        check.sentence("SEQ: ITEM {ITEM}.");
        check.row("3", "3");
        check.row("3*2 1(5)", "3315");
        check.refused(1, "row A=;", 1, 6);
        check.refused(1, "row A=();", 1, 7);
        check.refused(1, "row A=3();", 1, 8);
        for (String word : new String[] {"back", "over", "dual"}) {
            check.refused(1, "row A=" + word + "();", 1, 11);
        }
        check.refused(1, "row A=turn 1();", 1, 13);
    }

    private static void times() {
        check.sentence("ITEM: ONE, perhaps * and a digit (1 .. 9: so many times) behind it.");
        check.row("3*1", "3");
        check.row("3*9", "333333333");
        check.row("(31)*2 5*2", "313155");
        // each digit is a TOKEN: the 0 is the next BEAT
        check.row("3*10", "30");
        check.refused(1, "row A=3*0;", 2, 8);
        check.refused(1, "row A=3*;", 1, 8);
        check.refused(1, "row A=*2;", 1, 6);
        check.refused(1, "row A=3**2;", 1, 8);
        check.refused(1, "row A=3*2*2;", 1, 9);
    }

    private static void lettersInSequences() {
        check.sentence("a LETTER (its ROW told ahead in this text, else the latest one of all TIMES)");
        JugglingHall hall = check.hall(1, "row A=1;");
        check.taken(hall, "row A=22;");
        hall.look(0);
        check.taken(hall, "row B=A;row A=A 3;row C=A;row A=4;row D=A C;");
        check.sameText("the latest of all TIMES, whatever THE LOOK", Check.heights(hall, B, 0), "22");
        check.sameText("told ahead in this text", Check.heights(hall, C, 0), "223");
        check.sameText("told ahead in this text, the last one", Check.heights(hall, D, 0), "4223");
        check.told(hall, "row A=5;row", 1, 11);
        check.taken(hall, "row B=A;");
        check.sameText("a refused text tells none", Check.heights(hall, B, 0), "4");
        check.same("drop", hall.drop(A, 1, A), 5);
        check.taken(hall, "row B=A;");
        check.sameText("what was dropped is told, too", Check.heights(hall, B, 0), "0");
    }

    private static void groups() {
        check.sentence("or ( SEQ ), or back, over or dual ( SEQ ), or turn, a digit and ( SEQ ).");
        check.row("(3)back(1)over(5)dual(2)turn 0(4)turn 9(6)", "315746");
        // each one is of its own SEQ alone, though a longer one was inside a ( ) ahead of it
        JugglingHall hall = check.hall(1, "row A=(12[34])back(3)over(5)dual(2)turn 1(4)(6);");
        check.sameText("none has more", Check.throwsOf(hall, A), "<1p0><2p0><4p0 3p0><3p0><5p0><7p0><4p0><6p0>");
        for (String word : new String[] {"back", "over", "dual"}) {
            check.refused(1, "row A=" + word + ";", 1, 10);
            check.refused(1, "row A=" + word + " 3;", 1, 11);
            check.refused(1, "row A=" + word + " 3(3);", 1, 11);
            check.refused(1, "row A=" + word + "(3;", 1, 12);
        }
        check.refused(1, "row A=turn;", 1, 10);
        check.refused(1, "row A=turn(3);", 1, 10);
        check.refused(1, "row A=turn 3;", 1, 12);
        check.refused(1, "row A=turn A(3);", 1, 11);
        check.refused(1, "row A=turn 1(3;", 1, 14);
        check.refused(1, "row A=back turn 1(3);", 1, 11);
    }

    private static void beats() {
        check.sentence("BEAT of one JUGGLER: HANDS; of more: < HANDS {| HANDS} >, one for each JUGGLER.");
        check.refused(1, "row A=<1>;", 1, 6);
        check.refused(1, "row A=1|1;", 1, 7);
        check.refused(2, "row A=1;", 1, 6);
        check.refused(2, "row A=[11];", 1, 6);
        check.refused(2, "row A=<1>;", 1, 8);
        check.refused(2, "row A=<1|1|1>;", 1, 10);
        check.refused(2, "row A=<>;", 1, 7);
        check.refused(2, "row A=<1|>;", 1, 9);
        check.refused(3, "row A=<1|1>;", 1, 10);
        check.refused(3, "row A=<1|1|1|1>;", 1, 12);
        check.refused(3, "row A=<1|1|1;", 1, 12);
        check.sameText("two", Check.throwsOf(check.hall(2, "row A=<1|2>;"), A), "<1p0|2p1>");
        check.sameText("three", Check.throwsOf(check.hall(3, "row A=<1|2|3>;"), A), "<1p0|2p1|3p2>");
    }

    private static void hands() {
        check.sentence("HANDS: THROW or [ THROW THROW ].");
        check.refused(1, "row A=[];", 1, 7);
        check.refused(1, "row A=[1];", 1, 8);
        check.refused(1, "row A=[111];", 1, 9);
        check.refused(1, "row A=[11;", 1, 9);
        check.refused(1, "row A=[[11]];", 1, 7);
        check.refused(1, "row A=[1*2];", 1, 8);
        check.refused(2, "row A=<[1]|1>;", 1, 9);
        check.sameText("two", Check.throwsOf(check.hall(1, "row A=[12];"), A), "<2p0 1p0>");
    }

    private static void oneThrow() {
        check.sentence("THROW: a digit (0: none) and, perhaps, p and a digit (the JUGGLER to whom; else itself).");
        JugglingHall hall = check.hall(3, "row A=<1|0p0|[0 9p1]><3p0|3p0|3p0>;");
        check.sameText("throws", Check.throwsOf(hall, A), "<1p0|0|9p1><3p0|3p0|3p0>");
        check.refused(1, "row A=1p;", 1, 8);
        check.refused(1, "row A=p0;", 1, 6);
        check.refused(1, "row A=1p0p0;", 1, 9);
        check.refused(1, "row A=1P0;", 1, 7);
        // the 0 behind the JUGGLER is the next BEAT
        check.row("1p00", "10");
    }

    private static void back() {
        check.sentence("becomes one on BEAT -(i + h) mod n by j to k with HEIGHT h.");
        check.row("back(9)", "9");
        check.row("back(0)", "0");
        check.row("back(531)", "153");
        String zeros = "0".repeat(23);
        check.row("back(" + zeros + "1)", "1" + zeros);
        check.row("back(" + zeros + "9)", "0".repeat(16) + "9" + "0".repeat(7));
        check.row("back(1" + zeros + ")", zeros + "1");
        JugglingHall hall = check.hall(3, "row A=back(<3p2|0|0><0|1p0|0>);");
        check.sameText("by whom and to whom", Check.throwsOf(hall, A), "<1p1|0|0><0|0|3p0>");
    }

    private static void over() {
        check.sentence("over: each JUGGLER's is the next one's (of the last the first's), also to whom.");
        check.row("over(531)", "531");
        check.sameText("two", Check.throwsOf(check.hall(2, "row A=over(<1p0|2p0>);"), A), "<2p1|1p1>");
        check.sameText("three", Check.throwsOf(check.hall(3, "row A=over(<1p2|2p0|3p1>);"), A), "<3p2|1p0|2p1>");
        check.sameText("three times", Check.throwsOf(check.hall(3, "row A=over(over(over(<1p2|2p0|3p1>)));"), A),
                "<1p2|2p0|3p1>");
        check.sameText("numbered anew", Check.throwsOf(check.hall(3, "row A=over(<[4p1 4p2]|0|0>);"), A),
                "<0|4p0 4p2|0>");
    }

    private static void dual() {
        check.sentence("dual (PLAIN ones): HEIGHT h on BEAT i (0: none) becomes 9 - h on BEAT -i mod n.");
        check.row("dual(0)", "9");
        check.row("dual(9)", "0");
        check.row("dual([05])", "4");
        check.row("dual(012)", "978");
        check.row("dual(" + "9".repeat(23) + "0)", "09" + "0".repeat(22));
        check.row("dual(0" + "9".repeat(23) + ")", "9" + "0".repeat(23));
        check.row("dual(dual(531))", "531");
        check.sameText("to itself", Check.throwsOf(check.hall(1, "row A=dual(36);"), A), "<6p0><3p0>");
    }

    private static void turn() {
        check.sentence("turn d: it begins d BEATS later (over and over).");
        check.row("turn 0(531)", "531");
        check.row("turn 1(531)", "315");
        check.row("turn 3(531)", "531");
        check.row("turn 8(531)", "153");
        check.row("turn 9(5)", "5");
        check.row("turn 9(" + "0".repeat(9) + "1" + "0".repeat(14) + ")", "1" + "0".repeat(23));
        check.row("turn 1(" + "1" + "0".repeat(23) + ")", "0".repeat(23) + "1");
        check.sameText("two", Check.throwsOf(check.hall(2, "row A=turn 3(<1p1|0><0|[23]>);"), A),
                "<0|3p1 2p1><1p1|0>");
    }

    private static void firstFault() {
        check.sentence("FAULTS, the first as TOKENS are come to");
        check.refused(1, "# row A=B;", 1, 0);
        check.refused(1, "row A=B #;", 6, 6);
        check.refused(1, "row A=3*0 B;", 2, 8);
        check.refused(1, "row A=" + BEATS_24 + " 3 #", 4, 18);
        check.refused(1, "row A=dual([11]) ((((((", 5, 15);
        check.refused(1, "row A=((((((B", 3, 11);
        check.refused(1, "row A=3;row B=4;seen 12345678;row C=D;", 4, 28);
    }

    private static void placeOfAFault() {
        check.sentence("at the TOKEN's first byte");
        check.refused(1, "rows A=3;", 1, 0);
        check.refused(1, "  rows A=3;", 1, 2);
        check.refused(1, "row A=3 backs(3);", 1, 8);
        check.refused(1, "row ABCDEFGH=3;", 1, 4);
        check.refused(1, "row A=3\n\n B;", 6, 10);
    }

    private static void placeOfTheEnd() {
        check.sentence("(of the end at the length)");
        String[] texts = {"row", "row A", "row A=", "row A=3", "row A=3*", "row A=3p", "row A=[3", "row A=[33",
            "row A=(", "row A=(3", "row A=back", "row A=turn", "row A=turn 1", "seen", "seen 3", "seen 1234567"};
        for (String text : texts) {
            check.refused(1, text, 1, text.length());
            check.refused(1, text + " \n ", 1, text.length() + 3);
        }
        for (String text : new String[] {"row A=<", "row A=<3", "row A=<3|", "row A=<3|3", "row A=<3|3>"}) {
            check.refused(2, text, 1, text.length());
        }
    }

    private static void leastFault() {
        check.sentence("of one the least");
        // 1 and 3: a 6th ( that can't stand there
        check.refused(1, "row A=(((((3*(", 1, 13);
        check.refused(1, "row A=((((([(", 1, 12);
        // 1 and 6: a LETTER without a ROW that can't stand there
        check.refused(1, "row A=3*B;", 1, 8);
        check.refused(1, "seen B;", 1, 5);
        // 1 and 4: an 8th that is no MARK
        check.refused(1, "seen 1234567B;", 1, 12);
        // 2 and 4: the digit behind p that ends a BEAT too many
        check.refused(1, "row A=" + BEATS_24 + " 3p1;", 2, 20);
        // 4 and 5: the ) that ends beats too many, of what can't be changed
        check.refused(1, "row A=" + BEATS_24 + " dual([11]);", 4, 27);
        check.refused(1, "row A=" + BEATS_23 + " dual([11]);", 5, 27);
        check.refused(1, "row A=" + BEATS_23 + " back([22]1);", 4, 28);
    }

    private static void cannotStand() {
        check.sentence("1 it can't stand there, or is none.");
        String[] tokens = {"=", ";", "*", "(", ")", "[", "]", "<", ">", "|", "?", "0", "9", "A", "H", "p", "back",
            "over", "dual", "turn", "x", "#", "\0", "\u00ff"};
        for (String token : tokens) {
            check.refused(1, token, 1, 0);
            check.refused(1, "row A=3;" + token, 1, 8);
            check.refused(1, "row " + (token.equals("A") || token.equals("H") ? "x" : token), 1, 4);
            check.refused(1, "row A" + (token.equals("=") ? ";" : " " + token), 1, token.equals("=") ? 5 : 6);
        }
        for (String token : new String[] {"=", "]", "<", ">", "|", "?", "x", "#", "row", "seen", "Over"}) {
            check.refused(1, "row A=" + token, 1, 6);
            check.refused(1, "row A=3 " + token, 1, 8);
            check.refused(1, "row A=(3 " + token, 1, 9);
            check.refused(1, "row A=3* " + token, 1, 9);
        }
        check.refused(1, "row A=3);", 1, 7);
        check.refused(1, "row A=(3;", 1, 8);
    }

    private static void wrongDigit() {
        check.sentence("2 a digit behind * that is 0, behind p that is no JUGGLER.");
        check.refused(1, "row A=3*0;", 2, 8);
        check.refused(1, "row A=(3)* 0;", 2, 11);
        check.refused(2, "row A=<3|3>*0;", 2, 12);
        String[] others = {"", "|3", "|3|3"};
        for (int jugglers = 1; jugglers <= 3; jugglers++) {
            String open = jugglers == 1 ? "" : "<";
            String close = others[jugglers - 1] + (jugglers == 1 ? "" : ">");
            int place = 8 + open.length();
            for (int to = 0; to < 10; to++) {
                String text = "row A=" + open + "3p" + to + close + ";";
                check.told(new JugglingHall(jugglers), text, to < jugglers ? 0 : 2, to < jugglers ? -1 : place);
            }
        }
        check.refused(1, "row A=0p1;", 2, 8);
    }

    private static void tooDeep() {
        check.sentence("3 the 6th ( that is open around one another (at it).");
        check.row("(((((3)))))", "3");
        check.row("back(over(dual(turn 1((3)*1))))", "6");
        check.row("((((3)(1))))(((((5)))))((((2))))", "3152");
        check.refused(1, "row A=((((((3))))));", 3, 11);
        check.refused(1, "row A=(((((3)(back (3))))));", 3, 19);
        check.refused(1, "row A=back(over(dual(turn 1((turn 2(3))))));", 3, 35);
        check.refused(1, "row A=(((((((", 3, 11);
    }

    private static void tooLong() {
        check.sentence("4 at the TOKEN that ends a ONE, or the digit behind *, by which a SEQ (that of a ( ), too)"
                + " has more than 24 BEATS; at the 8th MARK.");
        check.refused(1, "row A=" + BEATS_24 + " 3;", 4, 18);
        check.refused(1, "row A=" + BEATS_24 + " 0;", 4, 18);
        check.refused(1, "row A=" + BEATS_24 + " 3p0;", 4, 20);
        check.refused(1, "row A=" + BEATS_24 + " [33];", 4, 21);
        check.refused(1, "row A=" + BEATS_24 + " [33p0];", 4, 23);
        check.refused(1, "row A=" + BEATS_24 + " (3);", 4, 20);
        check.refused(1, "row A=" + BEATS_24 + " turn 1(3);", 4, 26);
        check.refused(1, "row A=3;row B=" + BEATS_24 + " A*2;", 4, 26);
        check.refused(2, "row A=<3|3>*8<3|3>*8<3|3>*8<3|3>;", 4, 31);
        check.refused(1, "row A=" + BEATS_23 + " 3*2;", 4, 20);
        check.refused(1, "row A=(333)*9;", 4, 12);
        check.refused(1, "row A=(3*9 3*9 3*7);", 4, 17);
        check.refused(1, "row A=(" + BEATS_24 + " 3);", 4, 19);
        check.refused(1, "row A=back(3(" + BEATS_24 + "));", 4, 24);
        check.refused(1, "seen 12345678;", 4, 12);
        check.same("just 24 by *", check.hall(1, "row A=(333)*8;").beats(A), 24);
        check.same("just 24 by )", check.hall(1, "row A=3(" + BEATS_23 + ");").beats(A), 24);
        check.same("24 inside", check.hall(1, "row A=(" + BEATS_24 + ");").beats(A), 24);
        check.same("just 24 by a LETTER", check.hall(1, "row A=3;row B=" + BEATS_23 + " A;").beats(B), 24);
        check.same("just 24 for two", check.hall(2, "row A=<3|3>*8<3|3>*8<3|3>*7<3|3>;").beats(A), 24);
    }

    private static void cannotChange() {
        check.sentence("5 at the ) of a back by which more than two THROWS are on one BEAT by one JUGGLER,"
                + " of a dual of what isn't PLAIN.");
        check.sameText("two", Check.throwsOf(check.hall(1, "row A=back([22]2);"), A), "<2p0 2p0><2p0>");
        check.refused(1, "row A=back([22]1);", 5, 16);
        check.refused(1, "row A=back(321) ;", 5, 14);
        check.sameText("two by each", Check.throwsOf(check.hall(2, "row A=back(<[1 2p1]|[1 2p0]>);"), A),
                "<2p1 1p0|2p0 1p1>");
        check.refused(2, "row A=back(<[11]|1p0>);", 5, 21);
        check.refused(2, "row A=back(<[1p1 1p1]|[11]>);", 5, 27);
        check.row("dual([30])", "6");
        check.refused(1, "row A=dual([31]);", 5, 15);
        check.refused(1, "row A=dual(333[31]);", 5, 18);
        check.refused(2, "row A=dual(<0|0>);", 5, 16);
        check.refused(3, "row A=dual(<3|0|0>);", 5, 18);
    }

    private static void noRow() {
        check.sentence("6 a LETTER without a ROW.");
        check.refused(1, "row A=A;", 6, 6);
        check.refused(1, "row A=H;", 6, 6);
        check.refused(1, "row B=A;row A=3;", 6, 6);
        check.refused(1, "row A=3 (back(B));", 6, 14);
        check.refused(1, "row A=3;row B=A C;", 6, 16);
        JugglingHall hall = new JugglingHall(1);
        check.told(hall, "row A=3;row", 1, 11);
        check.told(hall, "row B=A;", 6, 6);
        check.taken(hall, "row A=3;");
        hall.look(0);
        check.taken(hall, "row B=A;");
    }

    private static void oneTelling() {
        check.sentence("A text that is taken is one telling (of each LETTER, and of seen, its last one).");
        JugglingHall hall = check.hall(1, "row A=1;seen 1;row A=22;seen 2?;row B=A;row A=333;");
        check.same("TIME", hall.about(1), 1);
        check.sameText("A", Check.heights(hall, A, 0), "333");
        check.sameText("B", Check.heights(hall, B, 0), "22");
        check.same("seen", hall.seen(0), 2);
        check.taken(hall, "row B=4;");
        check.sameText("what it doesn't tell stays", Check.heights(hall, A, 0), "333");
        check.same("seen stays", hall.seen(0), 2);
        check.told(hall, "row A=5;seen 7;#", 1, 15);
        check.sameText("one that isn't taken tells nothing", Check.heights(hall, A, 0), "333");
        check.same("seen stays", hall.seen(0), 2);
        check.taken(hall, "row B=6;");
        check.sameText("nor does it with the next one", Check.heights(hall, A, 0), "333");
        check.same("seen stays", hall.seen(0), 2);
    }
}
