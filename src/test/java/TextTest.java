/** Promises 4 (text) and 5 (fault): what a text may be, what it tells, and which fault counts where. */
public final class TextTest {
    private static final int NONE = JugglingHall.NONE;
    private static final int A = 0;
    private static final int B = 1;
    private static final int C = 2;
    private static final int D = 3;

    private static Check check;

    public static void main(String[] args) {
        check = new Check("TextTest");
        tellings();
        sixtyTimes();
        tokens();
        cannotStand();
        wrongDigits();
        tooDeep();
        tooLong();
        cannotChange();
        noRow();
        firstAndLeast();
        changes();
        severalJugglers();
        lettersInTexts();
        check.finish();
    }

    private static JugglingHall one() {
        return new JugglingHall(1);
    }

    private static void tellings() {
        JugglingHall hall = one();
        check.taken(hall, "");
        check.taken(hall, " \n ");
        check.same("an empty text is a telling", hall.about(1), 2);
        check.taken(hall, "row A=3;");
        check.told(hall, "row A=4;row B=", 1, 14);
        check.sameText("nothing of a faulty text is told", Check.heights(hall, A, 0), "3");
        check.same("fault(2)", hall.fault(2), NONE);
        check.same("fault(-1)", hall.fault(-1), NONE);
        check.taken(hall, "row A=5;seen 12;row A=A 1;seen ?;");
        check.sameText("the last one of a letter", Check.heights(hall, A, 0), "51");
        check.same("the last one of seen", hall.seen(0), 1);
        check.same("the last one of seen", hall.seen(10), NONE);
    }

    private static void sixtyTimes() {
        JugglingHall hall = one();
        for (int i = 0; i < 59; i++) {
            check.same("text", hall.text(), i + 1);
        }
        check.told(hall, "row", 1, 3);
        check.taken(hall, "row A=3;");
        check.same("TIME", hall.about(1), 60);
        Check.feed(hall, "row A=");
        check.same("text at 60", hall.text(), NONE);
        check.same("the tape stays", hall.about(3), 6);
        check.same("it was not read", hall.fault(0), 0);
        check.same("it was not read", hall.fault(1), NONE);
        check.same("drop at 60", hall.drop(A, 0, B), NONE);
    }

    private static void tokens() {
        check.row("\n5 3\n 1 ", "531");
        check.row("531", "531");
        check.row(" 5 * 2 ( 3 ) * 1 turn 1 ( 12 ) ", "55321");
        check.row("3p0", "3");
        check.row("3 p 0 1", "31");
        check.refused(1, "row A=3\t1;", 1, 7);
        check.refused(1, "row A=3\r1;", 1, 7);
        check.refused(1, "row A=3,1;", 1, 7);
        check.refused(1, "row\0A=3;", 1, 3);
        check.refused(1, "row A=3\u00a01;", 1, 7);
        check.refused(1, "rowA=3;", 1, 0);
        check.refused(1, "rowz A=3;", 1, 0);
        check.refused(1, "rowZ A=3;", 1, 0);
        check.refused(1, "row{A=3;", 1, 3);
        check.refused(1, "row@A=3;", 1, 3);
        check.refused(1, "row`A=3;", 1, 3);
        check.refused(1, "row A=3/;", 1, 7);
        check.refused(1, "row A=3:;", 1, 7);
        check.taken(one(), "row A=3;seen3;");
    }

    private static void cannotStand() {
        String[] texts = {"A", ";", "3", "row", "row ", "row A", "row A ", "row A=", "row A=;", "row A=3", "row A=3 ",
            "row a=3;", "row I=3;", "row 3=3;", "row A 3;", "row A=3;;", "row A==3;", "row A=3*;", "row A=3*2*2;",
            "row A=*2;", "row A=();", "row A=(3;", "row A=3);", "row A=back 3;", "row A=back;", "row A=turn(3);",
            "row A=turn 3 3;", "row A=turn 12(3);", "row A=[3];", "row A=[333];", "row A=[];", "row A=3];",
            "row A=[3(1)];", "row A=<3>;", "row A=3|3;", "row A=?;", "row A=p0;", "row A=3p;", "row A=3pp0;",
            "row A=3pA;", "row A=3 p0p0;", "row A=row;", "row A=seen;", "row A=Back(3);", "row A=backs(3);",
            "row A=I;", "row A=AB;", "seen;", "seen", "seen 3", "seen A;", "seen 3 A;", "seen 3*2;", "seen (3);",
            "Seen 3;", "row A=3;row", "row A=3 row B=4;", "row A=3*(2);", "row A=3 *A;"};
        int[] places = {0, 0, 0, 3, 4, 5, 6, 6, 6, 7, 8,
            4, 4, 4, 6, 8, 6, 8, 9,
            6, 7, 8, 7, 11, 10, 10,
            13, 12, 8, 9, 7, 7,
            8, 6, 7, 6, 6, 8, 7,
            7, 10, 6, 6, 6, 6,
            6, 6, 4, 4, 6, 5, 7, 6, 5,
            0, 11, 8, 8, 9};
        for (int i = 0; i < texts.length; i++) {
            check.refused(1, texts[i], 1, places[i]);
        }
        check.refused(2, "row A=3;", 1, 6);
        check.refused(2, "row A=[33];", 1, 6);
        check.refused(2, "row A=<3>;", 1, 8);
        check.refused(2, "row A=<3|3|3>;", 1, 10);
        check.refused(2, "row A=<3 3>;", 1, 9);
        check.refused(2, "row A=<|3>;", 1, 7);
        check.refused(2, "row A=<3|>;", 1, 9);
        check.refused(2, "row A=<3|3;", 1, 10);
        check.refused(2, "row A=<[3|3>;", 1, 9);
        check.refused(2, "row A=<(3)|3>;", 1, 7);
        check.refused(2, "row A=<3*2|3>;", 1, 8);
        check.refused(3, "row A=<3|3>;", 1, 10);
        check.refused(3, "row A=<3|3|3|3>;", 1, 12);
    }

    private static void wrongDigits() {
        check.refused(1, "row A=3*0;", 2, 8);
        check.refused(1, "row A=(31)* 0;", 2, 12);
        check.refused(1, "row A=3p1;", 2, 8);
        check.refused(1, "row A=0p1;", 2, 8);
        check.refused(1, "row A=[3 3p9];", 2, 11);
        check.refused(2, "row A=<3p2|3>;", 2, 9);
        check.refused(3, "row A=<3p2|3p3|3>;", 2, 13);
    }

    private static void tooDeep() {
        check.row("(((((3)))))", "3");
        check.row("(((((3)))))(((((1)))))", "31");
        check.refused(1, "row A=((((((3))))));", 3, 11);
        check.refused(1, "row A=back(over(dual(turn 1((back(3))))));", 3, 33);
        check.refused(1, "row A=(((((turn 1(3))))));", 3, 17);
        check.refused(1, "row A=(((((turn 3)))));", 1, 17);
        check.refused(1, "row A=((((((;", 3, 11);
    }

    private static void tooLong() {
        check.row("3*9 3*9 3*6", "333333333333333333333333");
        check.refused(1, "row A=3*9 3*9 3*7;", 4, 16);
        check.refused(1, "row A=3*9 3*9 3*6 1;", 4, 18);
        check.refused(1, "row A=3*9 3*9 3*6 1*2;", 4, 18);
        check.refused(1, "row A=3*9 3*9 3*6 1p0;", 4, 20);
        check.refused(1, "row A=3*9 3*9 3*6 1 p 0;", 4, 22);
        check.refused(1, "row A=3*9 3*9 3*6 1p;", 1, 20);
        check.refused(1, "row A=3*9 3*9 3*6 1p1;", 2, 20);
        check.refused(1, "row A=3*9 3*9 3*6 1#;", 4, 18);
        check.refused(1, "row A=3*9 3*9 3*6[11];", 4, 20);
        check.refused(1, "row A=3*9 3*9 3*5 (11);", 4, 21);
        check.refused(1, "row A=3*9 3*9 3*5 back(11)*0;", 4, 25);
        check.refused(1, "row A=3*9 3*9 3*5 1*2;", 4, 20);
        check.refused(1, "row A=(3*9 3*9 3*7);", 4, 17);
        check.refused(1, "row A=(33333)*5;", 4, 14);
        check.refused(1, "row A=3(33333)*5;", 4, 15);
        check.refused(2, "row A=<3|3>*9<3|3>*9<3|3>*6<3|3>;", 4, 31);
        check.refused(1, "row A=3*9 3*9;row B=A 3*6;row C=B A;", 4, 34);
        check.refused(1, "seen 1234567?;", 4, 12);
        check.refused(1, "seen ???????8", 4, 12);
        JugglingHall hall = one();
        check.taken(hall, "seen ????567;");
        check.same("seen(0)", hall.seen(0), 7);
        check.taken(hall, "row A=3*9 3*9 3*6;");
        check.told(hall, "row B=A A;", 4, 8);
        check.told(hall, "row B=A*2;", 4, 8);
        check.taken(hall, "row B=A*1;");
    }

    private static void cannotChange() {
        check.refused(1, "row A=dual([31]);", 5, 15);
        check.row("dual([30])", "6");
        check.row("dual([00])", "9");
        check.refused(2, "row A=dual(<1|1>);", 5, 16);
        // three throws that land together can't be thrown back
        check.refused(1, "row A=back(321);", 5, 14);
        check.row("back(31)", "13");
        check.refused(1, "row A=back([33][22]1 );", 5, 21);
        check.refused(2, "row A=back(<1p1|[11]>);", 5, 21);
        // at one token the lesser fault counts
        check.refused(1, "row A=3*9 3*9 3*6 dual([11]);", 4, 27);
        check.refused(1, "row A=3*9 3*9 3*4 back(321);", 4, 26);
        check.refused(1, "row A=3*9 3*9 3*3 back(321);", 5, 26);
    }

    private static void noRow() {
        check.refused(1, "row A=A;", 6, 6);
        check.refused(1, "row A=3;row B=A C;", 6, 16);
        check.refused(1, "row B=(((A)));", 6, 9);
        JugglingHall hall = one();
        check.told(hall, "row A=3;row B=C;", 6, 14);
        check.told(hall, "row B=A;", 6, 6);
    }

    private static void firstAndLeast() {
        check.refused(1, "row A=3*0 dual([31]) Z #", 2, 8);
        check.refused(1, "row A=# 3*0;", 1, 6);
        check.refused(1, "row A=B*0;", 6, 6);
        check.refused(1, "seen 12345678#", 4, 12);
    }

    private static void changes() {
        check.row("turn 0(531)", "531");
        check.row("turn 1(531)", "315");
        check.row("turn 2(531)", "153");
        check.row("turn 7(531)", "315");
        check.row("turn 9(5)", "5");
        check.row("back(531)", "153");
        check.row("back(4413)", "4134");
        check.row("over(531)", "531");
        check.row("dual(531)", "486");
        check.row("dual(900)", "099");
        check.row("dual(dual(51234))", "51234");
        check.row("back(back(5241))", "5241");
        check.row("(31)*2 5", "31315");
        check.row("turn 1(dual(441)*2)", "855855");
    }

    private static void severalJugglers() {
        JugglingHall hall = new JugglingHall(3);
        check.taken(hall, "row A=<[4p2 1]|3p0|0><2|0|[5p1 5]>;row B=over(A);row C=back(<3p1|0|0><1p2|2|0>);");
        check.same("1's throw 0 was 0's: height", hall.thrown(B, 0, 1, 0, 0), 4);
        check.same("1's throw 0 was 0's: to whom", hall.thrown(B, 0, 1, 0, 1), 0);
        check.same("1's throw 1 was 0's: to whom", hall.thrown(B, 0, 1, 1, 1), 1);
        check.same("2's was 1's: height", hall.thrown(B, 0, 2, 0, 0), 3);
        check.same("2's was 1's: to whom", hall.thrown(B, 0, 2, 0, 1), 1);
        check.same("0's was 2's: none", hall.thrown(B, 0, 0, 0, 0), 0);
        check.same("0's was 2's: throw 0 to whom", hall.thrown(B, 1, 0, 0, 1), 0);
        check.same("0's was 2's: throw 1 to whom", hall.thrown(B, 1, 0, 1, 1), 2);
        check.same("2's was 1's: none", hall.thrown(B, 1, 2, 0, 0), 0);
        // 3p1 on 0 by 0: on -3 mod 2 = 1 by 1 to 0; 1p2 on 1 by 0: on 0 by 2 to 0; 2 on 1 by 1: on 1 by 1 to 1
        check.same("back: 3", hall.thrown(C, 1, 1, 0, 0), 3);
        check.same("back: 3 to whom", hall.thrown(C, 1, 1, 0, 1), 0);
        check.same("back: 2", hall.thrown(C, 1, 1, 1, 0), 2);
        check.same("back: 2 to whom", hall.thrown(C, 1, 1, 1, 1), 1);
        check.same("back: 1", hall.thrown(C, 0, 2, 0, 0), 1);
        check.same("back: 1 to whom", hall.thrown(C, 0, 2, 0, 1), 0);
        check.same("back: none", hall.thrown(C, 0, 0, 0, 0), 0);
    }

    private static void lettersInTexts() {
        JugglingHall hall = one();
        check.taken(hall, "row A=3;");
        check.taken(hall, "row A=4;");
        hall.look(1);
        check.taken(hall, "row B=A;row A=A 1;row C=A;row D=A*2 B;");
        check.sameText("the latest of all times, whatever the look", Check.heights(hall, B, 0), "4");
        check.sameText("one told ahead in this text", Check.heights(hall, C, 0), "41");
        check.sameText("many times", Check.heights(hall, D, 0), "41414");
        check.taken(hall, "row H=A\nB C;");
        check.sameText("letters one behind the other", Check.heights(hall, 7, 0), "41441");
    }
}
