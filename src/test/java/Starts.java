/** Objects in which much has happened, so that a call which changes what it should not is seen. */
final class Starts {
    static final String ON_THE_TAPE = "hall rows 1 seats 2 law 2;sits 0 1;";
    /** Nine PLACES, seven EXITS, all 36 SEATS taken: 53 LINES. */
    static final String FULL = "hall rows 6 seats 6 law 12;"
        + "place 0 0 to 0 then 1;place 0 5 to 0 then 2;place 5 5 to 4 then 3;"
        + "place 5 0 to 4 then 4;place 2 2 to 1 then 5;place 2 3 to 2 then 6;"
        + "place 3 2 to 3 then 7;place 3 3 to 0 then 8;place 1 4 to 1 then 0;"
        + "exit 0 wide 1;exit 1 wide 2;exit 2 wide 3;exit 3 wide 1;exit 4 wide 2;exit 5 wide 3;exit 6 wide 1;"
        + everySeat(6, 6);

    private Starts() {
    }

    static String everySeat(int rows, int seats) {
        StringBuilder text = new StringBuilder();
        for (int row = 0; row < rows; row++) {
            for (int seat = 0; seat < seats; seat++) {
                text.append("sits " + row + " " + seat + ";");
            }
        }
        return text.toString();
    }

    static MovingExits of(String text) {
        Asked a = new Asked();
        a.tell(text);
        return a.x;
    }

    /**
     * The RING as it was told, but behind six changes that come to nothing together; a FAULT told by fault(), another
     * text on the TAPE; SLOT 3 and IMAGE 2 have nothing, IMAGE 0 has no HALL.
     */
    static MovingExits ring() {
        Asked a = new Asked();
        a.x.image(0);
        a.tell("hall rows 1 seats 1 law 5;place 0 0 to 3 then 0;");
        a.x.screw(0, 7);
        a.x.image(1);
        a.tell(Halls.RING);
        a.x.screw(2, 2);
        a.x.screw(2, 0);
        a.x.seats(1, 2, 0);
        a.x.seats(1, 2, 1);
        a.x.king(0, 5, 6);
        a.x.king(0, -1, -1);
        a.refuse("hall rows 7", 2, 10);
        slots(a);
        a.bring(ON_THE_TAPE);
        return a.x;
    }

    /** The RING behind all the 40 changes there can be, which come to nothing together. */
    static MovingExits ringOfForty() {
        Asked a = new Asked();
        a.tell(Halls.RING);
        for (int i = 0; i < 20; i++) {
            a.x.screw(i % 3, 8 - i % 9);
            a.x.screw(i % 3, (i + 1) % 3);
        }
        return a.x;
    }

    /** No HALL, but all else. */
    static MovingExits noHall() {
        MovingExits x = ring();
        Asked.due("no HALL in IMAGE 0", x.back(0), 0);
        return x;
    }

    /** SLOT 0 has an EXIT and its PLACE, SLOT 1 a ROW, a SEAT and a BEHIND, SLOT 2 a row of none. */
    private static void slots(Asked a) {
        a.row(0, 0, 0, 1);
        a.row(1, 1, 0, 2, 1);
        a.row(2, 1);
    }
}
