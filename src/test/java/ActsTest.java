/** Promises 9 to 18: where EXITS are in which ACT. */
public final class ActsTest {
    public static void main(String[] args) {
        ring();
        kings();
        pushes();
        noSuchThen();
        doubled();
        neverAgain();
        none();
        Asked.close();
    }

    private static void ring() {
        Asked a = new Asked();
        a.tell(Halls.RING);
        MovingExits x = a.x;
        int[][] at = {{0, 1}, {1, 2}, {2, 0}};
        for (int act = 0; act < 60; act++) {
            Asked.due("at(0, " + act + ")", x.at(0, act), at[act % 3][0]);
            Asked.due("at(1, " + act + ")", x.at(1, act), at[act % 3][1]);
        }
        Asked.due("at(2, 0)", x.at(2, 0), -2);
        Asked.due("at(-1, 0)", x.at(-1, 0), -2);
        Asked.due("at(0, 60)", x.at(0, 60), -2);
        Asked.due("at(0, -1)", x.at(0, -1), -2);
        int[] who = {1, 2, 0};
        for (int place = 0; place < 3; place++) {
            Asked.due("who(" + place + ", 0)", x.who(place, 0), who[place]);
        }
        Asked.due("who(2, 1)", x.who(2, 1), 2);
        Asked.due("who(3, 0)", x.who(3, 0), -2);
        Asked.due("who(0, 60)", x.who(0, 60), -2);
        Asked.due("behind(0, 0)", x.behind(0, 0), 0);
        Asked.due("behind(0, 1)", x.behind(0, 1), 1);
        Asked.due("behind(1, 1)", x.behind(1, 1), 4);
        Asked.due("behind(2, 1)", x.behind(2, 1), -2);
        Asked.due("behind(0, -1)", x.behind(0, -1), -2);
        Asked.due("leads(0, 0)", x.leads(0, 0), 1);
        Asked.due("leads(0, 1)", x.leads(0, 1), 2);
        Asked.due("leads(2, 4)", x.leads(2, 4), 1);
        Asked.due("leads(2, 2)", x.leads(2, 2), 0);
        Asked.due("leads(0, 5)", x.leads(0, 5), -2);
        Asked.due("leads(0, -1)", x.leads(0, -1), -2);
        Asked.due("leads(60, 0)", x.leads(60, 0), -2);
        Asked.due("doubles(59)", x.doubles(59), 0);
        Asked.due("doubles(60)", x.doubles(60), -2);
        Asked.due("doubles(-1)", x.doubles(-1), -2);
        Asked.due("slip()", x.slip(), -1);
        Asked.due("round()", x.round(), 3);
        Asked.due("again()", x.again(), 3);
        Asked.due("next(0, 2, 0)", x.next(0, 2, 0), 2);
        Asked.due("next(0, 2, 2)", x.next(0, 2, 2), 2);
        Asked.due("next(0, 2, 3)", x.next(0, 2, 3), 5);
        Asked.due("next(0, 0, 58)", x.next(0, 0, 58), -1);
        Asked.due("next(2, 0, 0)", x.next(2, 0, 0), -2);
        Asked.due("next(0, 3, 0)", x.next(0, 3, 0), -2);
        Asked.due("next(0, 0, 60)", x.next(0, 0, 60), -2);
        Asked.due("sees(0)", x.sees(0), 7);
        Asked.due("sees(2)", x.sees(2), -2);
        Asked.due("sees(-1)", x.sees(-1), -2);
    }

    private static void kings() {
        Asked a = new Asked();
        a.tell("hall rows 1 seats 3 law 3;place 0 0 to 0 then 1;place 0 1 to 1 then 2;place 0 2 to 4 then 0;"
            + "exit 0 wide 1 king 0 to 1;exit 2 wide 1;");
        int[][] at = {{0, 2}, {0, 1}, {1, 2}, {2, 0}, {0, 1}};
        for (int act = 0; act < at.length; act++) {
            Asked.due("king's at(0, " + act + ")", a.x.at(0, act), at[act][0]);
            Asked.due("pushed at(1, " + act + ")", a.x.at(1, act), at[act][1]);
        }
        Asked.due("round() with a king", a.x.round(), -1);
        Asked.due("again() with a king", a.x.again(), 4);
        // A king's in one ACT alone stays in none.
        a.x.king(0, 5, 5);
        Asked.due("at(0, 6)", a.x.at(0, 6), 0);
        Asked.due("round()", a.x.round(), 3);
        // From the last ACT but one on.
        a.x.king(0, 58, 59);
        Asked.due("at(0, 58)", a.x.at(0, 58), 1);
        Asked.due("at(0, 59)", a.x.at(0, 59), 1);
        Asked.due("at(1, 59), pushed", a.x.at(1, 59), 2);
    }

    private static void pushes() {
        Asked a = new Asked();
        // Two king's that lead to one another: who comes finds none in nine times, and stays.
        a.tell("hall rows 1 seats 4 law 3;place 0 0 to 0 then 1;place 0 1 to 1 then 0;place 0 2 to 4 then 0;"
            + "place 0 3 to 0 then 2;exit 0 wide 1 king 0 to 59;exit 1 wide 1 king 0 to 59;exit 2 wide 1;exit 3 wide 1;");
        Asked.due("stays", a.x.at(2, 1), 2);
        Asked.due("minds only king's", a.x.at(3, 1), 2);
        Asked.due("two in one place", a.x.doubles(1), 4);
        Asked.due("slip()", a.x.slip(), 1);
        // Along eight that are held to the ninth.
        a.tell(Halls.PLACES_OF_NINE + "exit 0 wide 1;exit 1 wide 1 king 0 to 9;exit 2 wide 1 king 0 to 9;"
            + "exit 3 wide 1 king 0 to 9;exit 4 wide 1 king 0 to 9;exit 5 wide 1 king 0 to 9;exit 6 wide 1 king 0 to 9;");
        Asked.due("past six", a.x.at(0, 1), 7);
        Asked.due("to the ninth", a.x.at(0, 2), 8);
        Asked.due("round", a.x.at(0, 3), 0);
        Asked.due("past six again", a.x.at(0, 4), 7);
        // Held by a king's at its own place, and led to itself.
        a.tell("hall rows 1 seats 2 law 3;place 0 0 to 0 then 1;place 0 1 to 0 then 1;"
            + "exit 0 wide 1;exit 1 wide 1 king 1 to 59;");
        Asked.due("comes to the king's that does not stay yet", a.x.at(0, 1), 1);
        Asked.due("stays with the king's", a.x.at(0, 2), 1);
    }

    private static void noSuchThen() {
        Asked a = new Asked();
        a.tell("hall rows 1 seats 2 law 3;place 0 0 to 0 then 8;place 0 1 to 0 then 0;"
            + "exit 0 wide 1 king 0 to 59;exit 1 wide 1;");
        Asked.due("a THEN behind the king's that is none", a.x.at(1, 1), 1);
        a.x.king(0, -1, -1);
        Asked.due("a THEN that is none", a.x.at(0, 59), 0);
        Asked.due("one goes", a.x.at(1, 1), 0);
    }

    private static void doubled() {
        Asked a = new Asked();
        a.tell("hall rows 1 seats 3 law 3;place 0 0 to 0 then 1;place 0 1 to 0 then 2;place 0 2 to 0 then 2;"
            + "exit 0 wide 1;exit 1 wide 1;exit 2 wide 1;");
        Asked.due("doubles(0)", a.x.doubles(0), 0);
        Asked.due("doubles(1)", a.x.doubles(1), 4);
        Asked.due("who(2, 2)", a.x.who(2, 2), 7);
        Asked.due("who(1, 1)", a.x.who(1, 1), 1);
        Asked.due("slip()", a.x.slip(), 1);
        Asked.due("round()", a.x.round(), -1);
        Asked.due("again()", a.x.again(), 3);
        Asked.due("sees(0)", a.x.sees(0), 7);
        Asked.due("sees(1)", a.x.sees(1), 6);
        Asked.due("next(1, 1, 1)", a.x.next(1, 1, 1), -1);
    }

    private static void neverAgain() {
        Asked a = new Asked();
        // Rings of four and of five, in which each king's stay puts off when all come round.
        a.tell("hall rows 3 seats 3 law 1;place 0 0 to 0 then 1;place 0 1 to 0 then 2;place 0 2 to 0 then 3;"
            + "place 1 0 to 0 then 0;place 1 1 to 0 then 5;place 1 2 to 0 then 6;place 2 0 to 0 then 7;place 2 1 to 0 then 8;"
            + "place 2 2 to 0 then 4;exit 0 wide 1 king 28 to 30;exit 7 wide 1 king 45 to 46;exit 1 wide 1 king 16 to 17;"
            + "exit 5 wide 1 king 11 to 13;");
        Asked.due("again(), never", a.x.again(), -1);
        Asked.due("round(), never", a.x.round(), -1);
        a.x.king(0, -1, -1);
        a.x.king(1, -1, -1);
        a.x.king(2, -1, -1);
        a.x.king(3, -1, -1);
        Asked.due("again() without king's", a.x.again(), 20);
        Asked.due("round() without king's", a.x.round(), 20);
    }

    private static void none() {
        Asked a = new Asked();
        a.tell(Halls.BARE);
        Asked.due("round() without EXITS", a.x.round(), 1);
        Asked.due("again() without EXITS", a.x.again(), 1);
        Asked.due("slip() without EXITS", a.x.slip(), -1);
        Asked.due("leads(0, 0) without EXITS", a.x.leads(0, 0), 0);
        Asked.due("doubles(0) without EXITS", a.x.doubles(0), 0);
        Asked.due("at(0, 0) without EXITS", a.x.at(0, 0), -2);
    }
}
