/** The bounds of the text (I) and of promises 1 to 8 and 57, sentence by sentence. */
public final class TextBoundsTest {
    private static final String HALL = "hall rows 6 seats 6 law 3;";
    private static final String SMALL = "hall rows 1 seats 1 law 3;";
    private static final String PLACE = HALL + "place 0 0 to 0 then 0;";
    private static final int BYTES = 1400;

    public static void main(String[] args) {
        rowsSeatsAndLaw();
        rowsAndSeatsThatAre();
        placeOnce();
        toAndThen();
        exitAtAPlaceToldAhead();
        wide();
        king();
        sitsOnce();
        numberedAsTheyStand();
        ninePlacesSevenExits();
        hallIsTheFirstLineAndNoOther();
        blanks();
        longestTokens();
        signsBesideThoseOfTokens();
        numbersOfManyDigits();
        firstByItsPlace();
        leastOfOnePlace();
        theEndsPlace();
        emptyAndFullTexts();
        anotherHall();
        Asked.close();
    }

    private static void taken(String text) {
        Asked a = new Asked();
        a.x = Starts.ring();
        a.tell(text);
        Asked.due("the TAPE is empty behind " + text, a.x.count(8), 0);
        Asked.due("no changes behind " + text, a.x.count(6), 0);
    }

    /** A FAULT, and all stays: the HALL, its changes, the TAPE, SLOTS and IMAGES. */
    private static void refused(String text, int fault, int at) {
        Asked read = new Asked();
        read.x = Starts.ring();
        read.refuse(text, fault, at);
        Asked unread = new Asked();
        unread.x = Starts.ring();
        unread.bring(text);
        Asked.same("all stays behind " + text, State.withoutFault(read.x), State.withoutFault(unread.x));
    }

    /** A number's bounds, with what stands ahead of it and behind. */
    private static void number(String ahead, int least, int most, String behind) {
        taken(ahead + least + behind);
        taken(ahead + most + behind);
        refused(ahead + (most + 1) + behind, 2, ahead.length());
        refused(ahead + "4294967296" + behind, 2, ahead.length());
        if (least > 0) {
            refused(ahead + (least - 1) + behind, 2, ahead.length());
        }
        refused(ahead + "-1" + behind, 1, ahead.length());
    }

    private static void rowsSeatsAndLaw() {
        number("hall rows ", 1, 6, " seats 1 law 0;");
        number("hall rows 1 seats ", 1, 6, " law 0;");
        number("hall rows 6 seats 6 law ", 0, 12, ";");
    }

    private static void rowsAndSeatsThatAre() {
        number(HALL + "place ", 0, 5, " 5 to 0 then 0;");
        number(HALL + "place 5 ", 0, 5, " to 0 then 0;");
        number(HALL + "sits ", 0, 5, " 5;");
        number(HALL + "sits 5 ", 0, 5, ";");
        number(SMALL + "place ", 0, 0, " 0 to 0 then 0;");
        number(SMALL + "place 0 ", 0, 0, " to 0 then 0;");
        number(SMALL + "sits ", 0, 0, " 0;");
        number(SMALL + "sits 0 ", 0, 0, ";");
        // Each is held against its own: ROWS that are not as many as SEATS.
        number("hall rows 2 seats 4 law 3;sits ", 0, 1, " 3;");
        number("hall rows 2 seats 4 law 3;sits 1 ", 0, 3, ";");
        number("hall rows 4 seats 2 law 3;place ", 0, 3, " 1 to 0 then 0;");
        number("hall rows 4 seats 2 law 3;place 3 ", 0, 1, " to 0 then 0;");
    }

    private static void placeOnce() {
        refused(PLACE + "place 0 0 to 0 then 0;", 2, PLACE.length() + 8);
        taken(PLACE + "place 0 1 to 0 then 0;");
        taken(PLACE + "place 1 0 to 0 then 0;");
        taken(PLACE + "sits 0 0;");
        String second = PLACE + "place 5 4 to 0 then 0;";
        refused(second + "place 5 4 to 1 then 1;", 2, second.length() + 8);
        taken(second + "place 4 5 to 0 then 0;");
    }

    private static void toAndThen() {
        number(HALL + "place 0 0 to ", 0, 4, " then 0;");
        number(HALL + "place 0 0 to 0 then ", 0, 8, ";");
    }

    private static void exitAtAPlaceToldAhead() {
        String three = PLACE + "place 0 1 to 0 then 0;place 0 2 to 0 then 0;";
        number(three + "exit ", 0, 2, " wide 1;");
        refused(HALL + "exit 0 wide 1;place 0 0 to 0 then 0;", 2, HALL.length() + 5);
        refused(PLACE + "exit 1 wide 1;place 0 1 to 0 then 0;", 2, PLACE.length() + 5);
        String two = three + "exit 2 wide 1;exit 0 wide 1;";
        refused(two + "exit 2 wide 1;", 2, two.length() + 5);
        refused(two + "exit 0 wide 1;", 2, two.length() + 5);
        taken(two + "exit 1 wide 1;");
    }

    private static void wide() {
        number(PLACE + "exit 0 wide ", 1, 3, ";");
        number(PLACE + "exit 0 wide ", 1, 3, " king 0 to 59;");
    }

    private static void king() {
        number(PLACE + "exit 0 wide 1 king ", 0, 59, " to 59;");
        number(PLACE + "exit 0 wide 1 king 0 to ", 0, 59, ";");
        number(PLACE + "exit 0 wide 1 king 30 to ", 30, 59, ";");
        number(PLACE + "exit 0 wide 1 king 59 to ", 59, 59, ";");
        taken(PLACE + "exit 0 wide 1;");
    }

    private static void sitsOnce() {
        String one = HALL + "sits 5 4;";
        refused(one + "sits 5 4;", 2, one.length() + 7);
        taken(one + "sits 4 5;");
        taken(one + "sits 5 5;");
        taken(one + "sits 4 4;");
        taken(one + "place 5 4 to 0 then 0;");
    }

    private static void numberedAsTheyStand() {
        // EXITS may stand between PLACES: each kind is numbered by itself.
        MovingExits x = Starts.of(HALL + "place 5 5 to 4 then 8;exit 0 wide 3;sits 0 0;place 0 0 to 1 then 0;"
            + "place 3 2 to 2 then 1;exit 2 wide 2 king 0 to 59;exit 1 wide 1;");
        int[][] places = {{5, 5, 4, 8}, {0, 0, 1, 0}, {3, 2, 2, 1}};
        int[][] exits = {{0, 3, -1, -1}, {2, 2, 0, 59}, {1, 1, -1, -1}};
        for (int i = 0; i < 3; i++) {
            for (int what = 0; what < 4; what++) {
                Asked.due("place(" + i + ", " + what + ")", x.place(i, what), places[i][what]);
                Asked.due("exit(" + i + ", " + what + ")", x.exit(i, what), exits[i][what]);
            }
        }
        Asked.due("LINES", x.count(7), 8);
    }

    private static void ninePlacesSevenExits() {
        String nine = Halls.PLACES_OF_NINE.replace("seats 3", "seats 4");
        String eight = nine.substring(0, nine.length() - 22);
        taken(eight);
        taken(eight + "place 2 3 to 0 then 0;");
        taken(nine);
        refused(nine + "place 2 3 to 0 then 0;", 3, nine.length());
        refused(nine + "place 0 0 to 0 then 0;", 3, nine.length());
        refused(nine + "place", 3, nine.length());
        refused(nine + "sits 0 0; \nplace;", 3, nine.length() + 11);
        String seven = nine + Halls.EXITS_OF_SEVEN;
        taken(seven);
        refused(seven + "exit 7 wide 1;", 3, seven.length());
        refused(seven + "exit 9 wide 9;", 3, seven.length());
        refused(seven + "exit", 3, seven.length());
        taken(nine + "sits 2 3;" + Halls.EXITS_OF_SEVEN + "sits 0 0;");
    }

    private static void hallIsTheFirstLineAndNoOther() {
        refused(HALL + HALL, 1, HALL.length());
        refused(PLACE + "sits 0 0;hall", 1, PLACE.length() + 9);
        String[] others = {"place", "exit", "sits", "rows", "king", "wide", "x", "ha", "hal", "halls", "hallhall"};
        for (String other : others) {
            refused(other + " " + HALL, 1, 0);
            refused("\n " + other, 1, 2);
        }
        String[] noLines = {"rows", "seats", "law", "to", "then", "wide", "king", "plac", "places", "exits", "sit", "sitss"};
        for (String word : noLines) {
            refused(HALL + word + " 0 0;", 1, HALL.length());
        }
        refused(HALL + ";", 1, HALL.length());
        refused(HALL + "0", 1, HALL.length());
    }

    private static void blanks() {
        taken("\n \n hall \n rows\n6 seats  6\nlaw\n\n3 ; \nplace 0 0 to 0 then 0 ;\n");
        taken("hall rows6seats6law3;place0 0to0then0;exit0wide1king0to59;sits0 0;");
        char[] noBlanks = {0, 1, 8, 9, 11, 12, 13, 31, 33, 127, 128, 160, 255};
        for (char sign : noBlanks) {
            refused("hall" + sign + "rows 1 seats 1 law 1;", 1, 4);
            refused(sign + HALL, 1, 0);
            refused(HALL + sign, 1, HALL.length());
            refused(HALL + "sits 0" + sign + "0;", 1, HALL.length() + 6);
        }
    }

    private static void longestTokens() {
        refused("hallrows 1 seats 1 law 1;", 1, 0);
        refused("hall rowsseats 1 law 1;", 1, 5);
        refused("hall rows 12 seats 1 law 1;", 2, 10);
        refused("hall rows 1 2 seats 1 law 1;", 1, 12);
        refused("ha ll rows 1 seats 1 law 1;", 1, 0);
        refused("hall rows 1 sea\nts 1 law 1;", 1, 12);
        refused(HALL + "sits 00;", 1, HALL.length() + 7);
        for (char letter = 'a'; letter <= 'z'; letter++) {
            refused("hall" + letter + " rows 1 seats 1 law 1;", 1, 0);
            refused(letter + "hall rows 1 seats 1 law 1;", 1, 0);
            refused(HALL + "sits" + letter + "0 0;", 1, HALL.length());
        }
        for (char digit = '0'; digit <= '9'; digit++) {
            refused("hall rows 1" + digit + " seats 1 law 1;", 2, 10);
        }
        taken("hall rows 1 seats 1 law 12;");
        refused("hall rows 1 seats 1 law 1 2;", 1, 26);
    }

    private static void signsBesideThoseOfTokens() {
        // 96 and 123 are beside a .. z, 47 and 58 beside the digits, 58 and 60 beside ; .
        char[] none = {96, 123, 47, 58, 60, 'A', 'H', 'Z', 0, 255, 128 + 'h', 128 + '0', 128 + ';'};
        for (char sign : none) {
            refused("hall" + sign, 1, 4);
            refused("hall rows " + sign, 1, 10);
            refused("hall rows 1" + sign, 1, 11);
            refused(HALL + "sits 0 0" + sign, 1, HALL.length() + 8);
        }
    }

    private static void numbersOfManyDigits() {
        taken("hall rows 0000000000000000000006 seats 00001 law 00000000000000;");
        refused("hall rows 0000000000000000000007 seats 1 law 1;", 2, 10);
        refused("hall rows 0000000000000000000000 seats 1 law 1;", 2, 10);
        // What would be 1 by 8, 16, 32 or 64 bits.
        String[] ones = {"257", "65537", "4294967297", "18446744073709551617", "340282366920938463463374607431768211457"};
        for (String one : ones) {
            refused("hall rows " + one + " seats 1 law 1;", 2, 10);
        }
    }

    private static void firstByItsPlace() {
        refused("hall rows 7 seats 7 law 13;?", 2, 10);
        refused("hall rows 1 seats 7 law 13;?", 2, 18);
        refused("hall rows 1 seats ? law 13;", 1, 18);
        refused("hall rows 7?", 2, 10);
        refused(HALL + "sits 6 6;", 2, HALL.length() + 5);
        refused(HALL + "place 6 6 to 5 then 9;", 2, HALL.length() + 6);
        refused(PLACE + "exit 1 wide 4 king 60 to 60;", 2, PLACE.length() + 5);
        refused(PLACE + "exit 0 wide 4 king 60 to 60;", 2, PLACE.length() + 12);
        refused(PLACE + "exit 0 wide 1 king 60 to 60;", 2, PLACE.length() + 19);
        refused(PLACE + "exit 0 wide 1 king 5 to 4?", 2, PLACE.length() + 24);
        // Taken already, but the ROW or what is ahead of it is wrong first.
        refused(PLACE + "place 6 0", 2, PLACE.length() + 6);
        refused(PLACE + "place 0 0 ?", 2, PLACE.length() + 8);
        refused(PLACE + "exit 0 wide 1;exit 0 wide 9;", 2, PLACE.length() + 19);
    }

    private static void leastOfOnePlace() {
        // A number out of all bounds where none can stand, a 10th place or 8th exit where no LINE begins.
        refused("hall 99", 1, 5);
        refused("hall rows 1 99", 1, 12);
        refused(HALL + "sits 0 0 99;", 1, HALL.length() + 9);
        refused(PLACE + "exit 0 wide 1 60;", 1, PLACE.length() + 14);
        String nine = Halls.PLACES_OF_NINE;
        refused(nine + "sits place 0 0 to 0 then 0;", 1, nine.length() + 5);
        refused(nine + "sits 0 0 place", 1, nine.length() + 9);
        String seven = nine + Halls.EXITS_OF_SEVEN;
        refused(seven + "sits exit", 1, seven.length() + 5);
    }

    private static void theEndsPlace() {
        String[] cut = {"hall", "hall rows", "hall rows 1", "hall rows 1 seats", "hall rows 1 seats 1", "hall rows 1 seats 1 law",
            "hall rows 1 seats 1 law 1", HALL + "place", HALL + "place 0", HALL + "place 0 0", HALL + "place 0 0 to",
            HALL + "place 0 0 to 0", HALL + "place 0 0 to 0 then", HALL + "place 0 0 to 0 then 0", PLACE + "exit",
            PLACE + "exit 0", PLACE + "exit 0 wide", PLACE + "exit 0 wide 1", PLACE + "exit 0 wide 1 king",
            PLACE + "exit 0 wide 1 king 0", PLACE + "exit 0 wide 1 king 0 to", PLACE + "exit 0 wide 1 king 0 to 0",
            HALL + "sits", HALL + "sits 0", HALL + "sits 0 0"};
        for (String text : cut) {
            refused(text, 1, text.length());
            refused(text + " \n ", 1, text.length() + 3);
        }
    }

    private static void emptyAndFullTexts() {
        Asked none = new Asked();
        none.x = Starts.ring();
        none.tell("");
        Asked.due("no HALL behind an empty text", none.x.round(), -2);
        Asked.due("no changes without a HALL", none.x.count(6), 0);
        none.x = Starts.ring();
        none.tell(Starts.FULL);
        none.tell(Halls.RING);
        none.tell("");
        for (int what = 0; what <= 8; what++) {
            Asked.due("count(" + what + ") where two HALLs were", none.x.count(what), 0);
        }
        none.x = Starts.ring();
        none.tell(" \n\n ");
        Asked.due("no HALL behind blanks", none.x.count(7), 0);
        taken(Starts.FULL);
        // All 1,400 bytes: the last one is the sign, a digit, a letter, a blank.
        String blanks = " ".repeat(BYTES);
        taken(blanks.substring(HALL.length()) + HALL);
        taken(HALL + blanks.substring(HALL.length()));
        String number = HALL + "sits 0 5";
        refused(blanks.substring(number.length()) + number, 1, BYTES);
        refused(blanks.substring(HALL.length() + 4) + HALL + "sits", 1, BYTES);
        refused(blanks.substring(1) + "h", 1, BYTES - 1);
        refused("h".repeat(BYTES), 1, 0);
        refused("hall rows " + "1".repeat(BYTES - 10), 2, 10);
        refused("hall rows " + "0".repeat(BYTES - 11) + "1", 1, BYTES);
        refused("?".repeat(BYTES), 1, 0);
        refused(";".repeat(BYTES), 1, 0);
        none.tell(blanks);
        Asked.due("no HALL behind 1,400 blanks", none.x.count(7), 0);
    }

    private static void anotherHall() {
        Asked told = new Asked();
        told.x = Starts.ring();
        told.tell(SMALL);
        Asked.due("PLACES of another HALL", told.x.count(3), 0);
        Asked.due("EXITS of another HALL", told.x.count(4), 0);
        Asked.due("who sit in another HALL", told.x.count(5), 0);
        Asked.due("place(0, 0) of another HALL", told.x.place(0, 0), -2);
        Asked.due("exit(0, 0) of another HALL", told.x.exit(0, 0), -2);
        Asked.due("sits(0, 0) of another HALL", told.x.sits(0, 0), 0);
        Asked.due("sits(0, 1) of another HALL", told.x.sits(0, 1), -2);
        Asked.due("undo() in another HALL", told.x.undo(), -5);
        Asked.due("the SLOTS stay", told.x.count(9), 3);
        Asked.due("an IMAGE stays", told.x.back(1), 0);
        Asked.due("THEN in the IMAGE", told.x.place(0, 3), 7);
    }
}
