/** Promises 1 to 8 and 57: the TAPE, the HALL that it tells, its FAULTS, and what stands in it. */
public final class TextTest {
    private static final String HALL = "hall rows 2 seats 2 law 1;";
    private static final String PLACE = HALL + "place 0 0 to 0 then 0;";
    private static final String EXIT = PLACE + "exit 0 wide 1;";

    public static void main(String[] args) {
        newObject();
        tape();
        bytesOfFeed();
        faultsOfTokens();
        faultsOfNumbers();
        faultsOfTooMany();
        faultsAtTheEnd();
        whatStaysAndGoes();
        whatStands();
        counts();
        Asked.close();
    }

    private static void newObject() {
        MovingExits x = new MovingExits();
        for (int what = 0; what <= 9; what++) {
            Asked.due("count(" + what + ") of a new object", x.count(what), 0);
        }
        Asked.due("fault(0) ahead of any", x.fault(0), 0);
        Asked.due("fault(1) ahead of any", x.fault(1), -1);
        Asked.due("slip() of none", x.slip(), -2);
        Asked.due("undo() of none", x.undo(), -2);
        Asked.due("back(0) of none", x.back(0), -6);
        Asked.due("hall() of nothing", x.hall(), 0);
    }

    private static void tape() {
        MovingExits x = new MovingExits();
        for (int n = 20; n <= 1400; n += 20) {
            Asked.due("feed", x.feed(0, 0, 0, 0, 0), n);
        }
        Asked.due("feed too much", x.feed(0, 0, 0, 0, 0), -1);
        Asked.due("count(8)", x.count(8), 1400);
        Asked.due("end(1401)", x.end(1401), -1);
        Asked.due("end(-1)", x.end(-1), -1);
        Asked.due("count(8) after wrong ends", x.count(8), 1400);
        Asked.due("end(1381)", x.end(1381), 1381);
        Asked.due("feed to 1401", x.feed(0, 0, 0, 0, 0), -1);
        Asked.due("count(8)", x.count(8), 1381);
        Asked.due("end(1380)", x.end(1380), 1380);
        Asked.due("feed to 1400", x.feed(0, 0, 0, 0, 0), 1400);
        Asked.due("end(1400)", x.end(1400), 1400);
        Asked.due("end(0)", x.end(0), 0);
        Asked.due("end(1)", x.end(1), -1);
        Asked.due("count(8)", x.count(8), 0);
    }

    private static void bytesOfFeed() {
        MovingExits x = new MovingExits();
        // "hall rows 1 seats 2 " and "law 12;" with blanks behind it: the highest byte of each number first.
        x.feed(0x68616c6c, 0x20726f77, 0x73203120, 0x73656174, 0x73203220);
        Asked.due("feed", x.feed(0x6c617720, 0x31323b20, 0x20202020, 0x0a0a0a0a, 0x20202020), 40);
        Asked.due("hall()", x.hall(), 1);
        Asked.due("count(0)", x.count(0), 1);
        Asked.due("count(1)", x.count(1), 2);
        Asked.due("count(2)", x.count(2), 12);
        Asked.due("count(8) after hall()", x.count(8), 0);
        x.feed(0xffffffff, 0, 0, 0, 0);
        Asked.due("hall() of byte 255", x.hall(), -4);
        Asked.due("fault(0)", x.fault(0), 1);
        Asked.due("fault(1)", x.fault(1), 0);
    }

    private static void faultsOfTokens() {
        Asked a = new Asked();
        a.refuse("sits 0 0;", 1, 0);
        a.refuse("  place", 1, 2);
        a.refuse("7", 1, 0);
        a.refuse(";", 1, 0);
        a.refuse("halls rows 1", 1, 0);
        a.refuse("hal rows 1", 1, 0);
        a.refuse("Hall", 1, 0);
        a.refuse("hall\trows", 1, 4);
        a.refuse("hallA", 1, 4);
        a.refuse("hall seats 1", 1, 5);
        a.refuse("hall rows;", 1, 9);
        a.refuse("hall rows law", 1, 10);
        a.refuse("hall rows -1", 1, 10);
        a.refuse("hall rows 1 1", 1, 12);
        a.refuse("hall rows 1 seats 1 law 1 king", 1, 26);
        a.refuse(HALL + "hall", 1, 26);
        a.refuse(HALL + ";", 1, 26);
        a.refuse(HALL + "3", 1, 26);
        a.refuse(HALL + "rows 1;", 1, 26);
        a.refuse(HALL + "king 1;", 1, 26);
        a.refuse(HALL + "place to", 1, 32);
        a.refuse(HALL + "place 0;", 1, 33);
        a.refuse(HALL + "place 0 0 then", 1, 36);
        a.refuse(HALL + "place 0 0 to 0 to", 1, 41);
        a.refuse(HALL + "sits 0 0 0", 1, 35);
        a.refuse(HALL + "sits 0 0;x", 1, 35);
        a.refuse(PLACE + "exit wide", 1, 53);
        a.refuse(PLACE + "exit 0 king", 1, 55);
        a.refuse(PLACE + "exit 0 wide 1 to", 1, 62);
        a.refuse(PLACE + "exit 0 wide 1 king 0 then", 1, 69);
        a.refuse(PLACE + "exit 0 wide 1 king to", 1, 67);
        a.refuse(PLACE + "exit 0 wide 1 king 0 to 1 king", 1, 74);
        a.refuse(HALL + "placeplace 0 0", 1, 26);
        a.refuse(HALL + (char) 128, 1, 26);
    }

    private static void faultsOfNumbers() {
        Asked a = new Asked();
        a.refuse("hall rows 0", 2, 10);
        a.refuse("hall rows 7", 2, 10);
        a.refuse("hall rows 1 seats 0", 2, 18);
        a.refuse("hall rows 1 seats 7", 2, 18);
        a.refuse("hall rows 1 seats 1 law 13", 2, 24);
        a.refuse("hall rows 4294967297 seats", 2, 10);
        a.refuse("hall rows 18446744073709551617", 2, 10);
        a.refuse(HALL + "place 2", 2, 32);
        a.refuse(HALL + "place 0 2", 2, 34);
        a.refuse(HALL + "place 0 0 to 5", 2, 39);
        a.refuse(HALL + "place 0 0 to 0 then 9", 2, 46);
        a.refuse(PLACE + "place 0 0", 2, 56);
        a.refuse(HALL + "exit 0", 2, 31);
        a.refuse(PLACE + "exit 1", 2, 53);
        a.refuse(PLACE + "exit 0 wide 0", 2, 60);
        a.refuse(PLACE + "exit 0 wide 4", 2, 60);
        a.refuse(EXIT + "exit 0", 2, 67);
        a.refuse(PLACE + "exit 0 wide 1 king 60", 2, 67);
        a.refuse(PLACE + "exit 0 wide 1 king 0 to 60", 2, 72);
        a.refuse(PLACE + "exit 0 wide 1 king 5 to 4", 2, 72);
        a.refuse(HALL + "sits 2", 2, 31);
        a.refuse(HALL + "sits 0 2", 2, 33);
        a.refuse(HALL + "sits 0 0;sits 0 0", 2, 42);
        // The first by its place: what is behind it is not asked.
        a.refuse(HALL + "sits 9 9;?", 2, 31);
        a.refuse("hall rows 9?", 2, 10);
        a.refuse("hall rows ?9", 1, 10);
    }

    private static void faultsOfTooMany() {
        Asked a = new Asked();
        String nine = Halls.PLACES_OF_NINE;
        a.refuse(nine + "place", 3, 224);
        a.refuse(nine + "place 9 9 to 9", 3, 224);
        a.refuse(nine + Halls.EXITS_OF_SEVEN + "exit", 3, 322);
        a.refuse(nine + Halls.EXITS_OF_SEVEN + "  exit 0 wide 1;", 3, 324);
        a.refuse(nine + Halls.EXITS_OF_SEVEN + "place", 3, 322);
        a.tell(nine + Halls.EXITS_OF_SEVEN);
        Asked.due("count(3)", a.x.count(3), 9);
        Asked.due("count(4)", a.x.count(4), 7);
        Asked.due("count(7)", a.x.count(7), 17);
    }

    private static void faultsAtTheEnd() {
        Asked a = new Asked();
        a.refuse("hall", 1, 4);
        a.refuse("hall rows 1 seats 1 law 1", 1, 25);
        a.refuse("hall rows 1 seats 1 law 1  \n", 1, 28);
        a.refuse(HALL + "place 0 0 to", 1, 38);
        a.refuse(HALL + "sits 0 0", 1, 34);
        a.refuse(PLACE + "exit 0 wide 1", 1, 61);
        a.refuse(PLACE + "exit 0 wide 1 king 0", 1, 68);
    }

    private static void whatStaysAndGoes() {
        Asked a = new Asked();
        a.tell(Halls.RING);
        a.x.screw(0, 2);
        a.refuse(HALL + "sits 0 5;", 2, 33);
        Asked.due("the HALL stays", a.x.count(7), 9);
        Asked.due("the changes stay", a.x.count(6), 1);
        Asked.due("the TAPE stays", a.x.count(8), 35);
        Asked.due("the same FAULT again", a.x.hall(), -4);
        Asked.due("mended: end", a.x.end(33), 33);
        Asked.due("mended: feed", a.x.feed(0x313b2020, 0x20202020, 0x20202020, 0x20202020, 0x20202020), 53);
        Asked.due("mended: hall()", a.x.hall(), 2);
        Asked.due("mended: fault(0)", a.x.fault(0), 0);
        Asked.due("another HALL", a.x.count(3), 0);
        Asked.due("its people", a.x.count(5), 1);
        Asked.due("its changes", a.x.count(6), 0);
        Asked.due("undo() in it", a.x.undo(), -5);
        a.tell(" \n  ");
        Asked.due("count(7) without a HALL", a.x.count(7), 0);
        Asked.due("count(0) without a HALL", a.x.count(0), 0);
        Asked.due("lawful() without a HALL", a.x.lawful(), -2);
        Asked.due("sits() without a HALL", a.x.sits(0, 0), -2);
        Asked.due("fault(2)", a.x.fault(2), -1);
        Asked.due("fault(-1)", a.x.fault(-1), -1);
    }

    private static void whatStands() {
        Asked a = new Asked();
        a.tell("hall rows 006 seats5law 0;\n\nplace5 4to4then8;place 0 0 to 1 then 0;"
            + "exit 1 wide 3 king 0 to 0;exit 0 wide 2;sits 5 4;sits 3 0;");
        int[][] places = {{5, 4, 4, 8}, {0, 0, 1, 0}};
        int[][] exits = {{1, 3, 0, 0}, {0, 2, -1, -1}};
        for (int i = 0; i < 2; i++) {
            for (int what = 0; what < 4; what++) {
                Asked.due("place(" + i + ", " + what + ")", a.x.place(i, what), places[i][what]);
                Asked.due("exit(" + i + ", " + what + ")", a.x.exit(i, what), exits[i][what]);
            }
        }
        Asked.due("place(2, 0)", a.x.place(2, 0), -2);
        Asked.due("place(-1, 0)", a.x.place(-1, 0), -2);
        Asked.due("place(0, 4)", a.x.place(0, 4), -2);
        Asked.due("place(0, -1)", a.x.place(0, -1), -2);
        Asked.due("exit(2, 0)", a.x.exit(2, 0), -2);
        Asked.due("exit(-1, 0)", a.x.exit(-1, 0), -2);
        Asked.due("exit(0, 4)", a.x.exit(0, 4), -2);
        Asked.due("exit(0, -1)", a.x.exit(0, -1), -2);
        Asked.due("sits(5, 4)", a.x.sits(5, 4), 1);
        Asked.due("sits(3, 0)", a.x.sits(3, 0), 1);
        Asked.due("sits(0, 3)", a.x.sits(0, 3), 0);
        Asked.due("sits(6, 0)", a.x.sits(6, 0), -2);
        Asked.due("sits(0, 5)", a.x.sits(0, 5), -2);
        Asked.due("sits(-1, 0)", a.x.sits(-1, 0), -2);
        Asked.due("sits(0, -1)", a.x.sits(0, -1), -2);
    }

    private static void counts() {
        Asked a = new Asked();
        a.tell(Halls.RING);
        a.x.seats(0, 0, 1);
        a.x.row(2, 0, 0);
        a.x.feed(0, 0, 0, 0, 0);
        int[] due = {2, 3, 3, 3, 2, 4, 1, 9, 20, 1};
        for (int what = 0; what < due.length; what++) {
            Asked.due("count(" + what + ")", a.x.count(what), due[what]);
        }
        Asked.due("count(10)", a.x.count(10), -1);
        Asked.due("count(-1)", a.x.count(-1), -1);
        Asked.due("NONE", MovingExits.NONE, -1);
    }
}
