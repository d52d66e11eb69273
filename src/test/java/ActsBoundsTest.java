/** The bounds of II and of promises 9 to 18: the first and the last ACT, EXITS that stay, and PLACES that are none. */
public final class ActsBoundsTest {
    private static final String TWO = "hall rows 1 seats 3 law 3;place 0 0 to 0 then 1;place 0 1 to 1 then 0;";

    public static void main(String[] args) {
        kingsInBothActs();
        pastThoseThatStay();
        noneThatIsFree();
        thenIsNoPlace();
        mindsOnlyThoseThatStay();
        at();
        who();
        behind();
        leads();
        doubles();
        slip();
        round();
        again();
        next();
        sees();
        Asked.close();
    }

    private static void kingsInBothActs() {
        int[][] ranges = {{-1, -1}, {0, 0}, {0, 1}, {0, 2}, {0, 58}, {0, 59}, {1, 58}, {30, 30}, {30, 31}, {57, 58}, {58, 58},
            {58, 59}, {59, 59}};
        for (int[] range : ranges) {
            String king = range[0] < 0 ? "" : " king " + range[0] + " to " + range[1];
            MovingExits x = Starts.of(TWO + "exit 0 wide 1" + king + ";");
            int place = 0;
            for (int act = 0; act < 60; act++) {
                Asked.due("at(0, " + act + ") with" + king, x.at(0, act), place);
                boolean stays = range[0] >= 0 && act >= range[0] && act + 1 <= range[1];
                place = stays ? place : 1 - place;
            }
        }
    }

    /** So many king's EXITS in a row, PLACE by PLACE, and one behind them that moves; last is where the last THEN leads. */
    private static MovingExits pushed(int kings, int last) {
        StringBuilder text = new StringBuilder("hall rows 3 seats 3 law 3;");
        for (int place = 0; place < 8; place++) {
            int then = place == kings ? last : place + 1;
            text.append("place " + place / 3 + " " + place % 3 + " to 0 then " + then + ";");
        }
        text.append("exit 0 wide 1;");
        for (int king = 1; king <= kings; king++) {
            text.append("exit " + king + " wide 1 king 0 to 1;");
        }
        return Starts.of(text.toString());
    }

    private static void pastThoseThatStay() {
        for (int kings = 0; kings <= 6; kings++) {
            Asked.due("past " + kings, pushed(kings, kings + 1).at(0, 1), kings + 1);
        }
        Asked.due("past six and back to where it was", pushed(6, 0).at(0, 1), 0);
        // In ACT 1 nobody stays any more: all go, the pushed one too.
        MovingExits x = pushed(6, 7);
        Asked.due("in ACT 2 it goes from where it is", x.at(0, 2), 7);
        Asked.due("in ACT 2 a king's goes too", x.at(1, 2), 2);
    }

    private static void noneThatIsFree() {
        for (int kings = 1; kings <= 6; kings++) {
            for (int last = 1; last <= kings; last++) {
                MovingExits x = pushed(kings, last);
                Asked.due("round " + kings + " that stay, from " + last, x.at(0, 1), 0);
                Asked.due("it goes in the next ACT", x.at(0, 2), 1);
            }
        }
        // A king's that came to the very PLACE: whom it pushes round comes back, and stays by it.
        MovingExits x = Starts.of(TWO + "exit 0 wide 1 king 1 to 59;exit 1 wide 1;");
        x.screw(0, 0);
        Asked.due("both in one PLACE", x.who(0, 1), 3);
        Asked.due("its own PLACE is held", x.at(1, 59), 0);
        x.screw(0, 1);
        x.screw(1, 1);
        Asked.due("the king's goes ahead of its ACTS", x.at(0, 1), 1);
        Asked.due("likewise the other one stays by it", x.who(1, 59), 3);
    }

    private static void thenIsNoPlace() {
        for (int then = 0; then <= 8; then++) {
            MovingExits x = Starts.of(TWO + "exit 0 wide 1;");
            x.screw(0, then);
            Asked.due("THEN " + then + " of two PLACES", x.at(0, 1), then == 1 ? 1 : 0);
            x = Starts.of(TWO + "exit 0 wide 1;exit 1 wide 1 king 0 to 59;");
            x.screw(1, then);
            Asked.due("THEN " + then + " behind one that stays", x.at(0, 1), 0);
        }
        Asked.due("THEN 8 of eight PLACES", pushed(0, 8).at(0, 1), 0);
        Asked.due("THEN 7 of eight PLACES", pushed(0, 7).at(0, 1), 7);
        Asked.due("THEN 8 behind six that stay", pushed(6, 8).at(0, 1), 0);
        MovingExits x = Starts.of(Halls.PLACES_OF_NINE + "exit 7 wide 1;");
        Asked.due("THEN 8 of nine PLACES", x.at(0, 1), 8);
    }

    private static void mindsOnlyThoseThatStay() {
        MovingExits x = Starts.of(TWO + "exit 0 wide 1;exit 1 wide 1;");
        Asked.due("they change places", x.at(0, 1), 1);
        Asked.due("all at once", x.at(1, 1), 0);
        x.screw(1, 1);
        Asked.due("one that goes to where it is is not minded", x.who(1, 1), 3);
        x.screw(1, 8);
        Asked.due("one that stays, but as no king's, is not minded", x.who(1, 1), 3);
        x.king(1, 0, 0);
        Asked.due("a king's in the one ACT alone", x.who(1, 1), 3);
        x.king(1, 1, 1);
        Asked.due("a king's in the next ACT alone", x.who(1, 1), 3);
        x.king(1, 0, 1);
        Asked.due("a king's in both", x.who(1, 1), 2);
        Asked.due("and in both no more", x.who(1, 2), 3);
    }

    private static void at() {
        Bounds ring = new Bounds(Starts::ring);
        ring.of("at(.., 0)", 0, 0, 1, 1, (x, exit) -> x.at(exit, 0));
        ring.of("at(1, ..)", 0, 1, 59, 0, (x, act) -> x.at(1, act));
        Bounds full = new Bounds(() -> Starts.of(Starts.FULL));
        full.of("at(.., 59) of seven", 0, 5, 6, 2, (x, exit) -> x.at(exit, 59));
    }

    private static void who() {
        Bounds ring = new Bounds(Starts::ring);
        ring.of("who(.., 0)", 0, 1, 2, 0, (x, place) -> x.who(place, 0));
        ring.of("who(0, ..)", 0, 1, 59, 2, (x, act) -> x.who(0, act));
        Bounds full = new Bounds(() -> Starts.of(Starts.FULL));
        full.of("who(.., 59) of nine", 0, 16, 8, 8, (x, place) -> x.who(place, 59));
        MovingExits seven = inOnePlace(8);
        Asked.due("who(8, 0), nobody", seven.who(8, 0), 0);
        Asked.due("who(8, 1), all seven", seven.who(8, 1), 127);
        Asked.due("who(0, 1), nobody", seven.who(0, 1), 0);
    }

    /** Seven EXITS that all are at one PLACE from ACT 1 on. */
    private static MovingExits inOnePlace(int place) {
        String text = Halls.PLACES_OF_NINE + Halls.EXITS_OF_SEVEN;
        return Starts.of(text.replaceAll("then \\d", "then " + place));
    }

    private static void behind() {
        Bounds ring = new Bounds(Starts::ring);
        ring.of("behind(.., 0)", 0, 0, 1, 1, (x, exit) -> x.behind(exit, 0));
        ring.of("behind(0, ..)", 0, 0, 59, 4, (x, act) -> x.behind(0, act));
        Bounds full = new Bounds(() -> Starts.of(Starts.FULL));
        full.of("behind(.., 0) of seven", 0, 0, 6, 3, (x, exit) -> x.behind(exit, 0));
    }

    private static void leads() {
        Bounds ring = new Bounds(Starts::ring);
        ring.of("leads(.., 0)", 0, 1, 59, 2, (x, act) -> x.leads(act, 0));
        ring.of("leads(59, ..)", 0, 2, 4, 1, (x, behind) -> x.leads(59, behind));
        int[] full = {0b11, 0b10000, 0b100000, 0b1000000, 0b1100};
        for (int behind = 0; behind < 5; behind++) {
            Asked.due("leads(0, " + behind + ") of a full HALL", Starts.of(Starts.FULL).leads(0, behind), full[behind]);
            Asked.due("leads without EXITS", Starts.of(Halls.BARE).leads(59, behind), 0);
        }
        Asked.due("leads of all seven", inOnePlace(0).leads(59, 0), 127);
    }

    private static void doubles() {
        Bounds ring = new Bounds(Starts::ring);
        ring.of("doubles", 0, 0, 59, 0, MovingExits::doubles);
        Bounds eighth = new Bounds(() -> inOnePlace(8));
        eighth.of("doubles of seven", 0, 0, 59, 256, MovingExits::doubles);
        Asked.due("doubles of the first PLACE", inOnePlace(0).doubles(1), 1);
        Asked.due("doubles without EXITS", Starts.of(Halls.BARE).doubles(59), 0);
        MovingExits alone = Starts.of(TWO + "exit 0 wide 1;");
        Asked.due("one alone is not doubled", alone.doubles(0), 0);
    }

    /** An EXIT that goes to the other one's PLACE, where that one stays, behind so many ACTS. */
    private static MovingExits meeting(String king) {
        return Starts.of(TWO.replace("then 0", "then 1") + "exit 0 wide 1" + king + ";exit 1 wide 1;");
    }

    private static void slip() {
        new Bounds(Starts::ring).only("slip(), never", -1, MovingExits::slip);
        Asked.due("slip() in ACT 1", meeting("").slip(), 1);
        Asked.due("slip() in ACT 1 with a king's of one ACT", meeting(" king 0 to 0").slip(), 1);
        Asked.due("slip() in ACT 2", meeting(" king 0 to 1").slip(), 2);
        MovingExits last = meeting(" king 0 to 58");
        Asked.due("slip() in the last ACT", last.slip(), 59);
        Asked.due("doubles in the last ACT but one", last.doubles(58), 0);
        Asked.due("doubles in the last ACT", last.doubles(59), 2);
        Asked.due("slip() behind the last ACT", meeting(" king 0 to 59").slip(), -1);
        Asked.due("slip() without EXITS", Starts.of(Halls.BARE).slip(), -1);
    }

    private static void round() {
        new Bounds(Starts::ring).only("round()", 3, MovingExits::round);
        Asked.due("round() of what never goes", meeting(" king 0 to 59").round(), 1);
        Asked.due("round() in ACT 2", Starts.of(TWO + "exit 0 wide 1;").round(), 2);
        Asked.due("round() in the last ACT", Starts.of(TWO + "exit 0 wide 1 king 1 to 58;").round(), 59);
        Asked.due("round() behind the last ACT", Starts.of(TWO + "exit 0 wide 1 king 1 to 59;").round(), -1);
        Asked.due("round() without EXITS", Starts.of(Halls.BARE).round(), 1);
        // All of them: one is back in ACT 2, the other never.
        String both = TWO + "place 0 2 to 0 then 1;exit 0 wide 1;exit 2 wide 1;";
        Asked.due("round() if one is not back", Starts.of(both).round(), -1);
        Asked.due("again() if one is not back", Starts.of(both).again(), 3);
    }

    private static void again() {
        new Bounds(Starts::ring).only("again()", 3, MovingExits::again);
        Asked.due("again() of what never goes", meeting(" king 0 to 59").again(), 1);
        Asked.due("again() without EXITS", Starts.of(Halls.BARE).again(), 1);
        Asked.due("again() of an earlier ACT than ACT 0", meeting("").again(), 2);
        String rings = "hall rows 3 seats 3 law 1;place 0 0 to 0 then 1;place 0 1 to 0 then 2;place 0 2 to 0 then 3;"
            + "place 1 0 to 0 then 0;place 1 1 to 0 then 5;place 1 2 to 0 then 6;place 2 0 to 0 then 7;place 2 1 to 0 then 8;"
            + "place 2 2 to 0 then 4;";
        MovingExits last = Starts.of(rings + "exit 0 wide 1 king 39 to 40;exit 4 wide 1;exit 2 wide 1 king 18 to 20;");
        Asked.due("again() in the last ACT", last.again(), 59);
        MovingExits never = Starts.of(rings + "exit 0 wide 1 king 28 to 30;exit 7 wide 1 king 45 to 46;"
            + "exit 1 wide 1 king 16 to 17;exit 5 wide 1 king 11 to 13;");
        Asked.due("again() in no ACT", never.again(), -1);
    }

    private static void next() {
        Bounds ring = new Bounds(Starts::ring);
        ring.of("next(.., 2, 0)", 0, 2, 1, 1, (x, exit) -> x.next(exit, 2, 0));
        ring.of("next(0, .., 57)", 0, 57, 2, 59, (x, place) -> x.next(0, place, 57));
        ring.of("next(0, 2, ..)", 0, 2, 59, 59, (x, act) -> x.next(0, 2, act));
        ring.only("next() from the ACT itself on", 2, x -> x.next(0, 2, 2));
        ring.only("next() behind it", 5, x -> x.next(0, 2, 3));
        ring.only("next() in the last ACT", 59, x -> x.next(0, 2, 57));
        ring.only("next() in none", -1, x -> x.next(0, 0, 58));
        ring.only("next() in none but earlier ones", -1, x -> x.next(0, 1, 59));
        Bounds full = new Bounds(() -> Starts.of(Starts.FULL));
        full.of("next(.., 8, 0) of seven", 0, 8, 6, 2, (x, exit) -> x.next(exit, 8, 0));
        full.of("next(6, .., 0) of nine", 0, 3, 8, 2, (x, place) -> x.next(6, place, 0));
        MovingExits never = Starts.of(TWO + "exit 0 wide 1 king 0 to 59;");
        Asked.due("next() never", never.next(0, 1, 0), -1);
    }

    private static void sees() {
        Bounds ring = new Bounds(Starts::ring);
        ring.of("sees", 0, 7, 1, 7, MovingExits::sees);
        Bounds full = new Bounds(() -> Starts.of(Starts.FULL));
        full.of("sees of seven", 0, 511, 6, 511, MovingExits::sees);
        String nine = Halls.PLACES_OF_NINE.replace("then 1;", "then 8;");
        Asked.due("sees() what it sees in the last ACT alone", Starts.of(nine + "exit 0 wide 1 king 0 to 58;").sees(0), 257);
        Asked.due("sees() where it stays", Starts.of(nine + "exit 0 wide 1 king 0 to 59;").sees(0), 1);
    }
}
