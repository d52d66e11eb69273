/** Promises 32 to 36: how EXITS should stand, and winds. */
public final class StandsTest {
    public static void main(String[] args) {
        ring();
        nine();
        eight();
        leastSet();
        nothingGood();
        winds();
        Asked.close();
    }

    private static void ring() {
        Asked a = new Asked();
        a.tell(Halls.RING);
        int[] stand = {-1, 4, 3, 3, 3, 3, 3, 3};
        int[] stands = {-1, 1, 5, 5, 5, 5, 5, 5};
        for (int n = 0; n <= 7; n++) {
            Asked.due("stand(" + n + ")", a.x.stand(n), stand[n]);
            Asked.due("stands(" + n + ")", a.x.stands(n), stands[n]);
        }
        Asked.due("stand(8)", a.x.stand(8), -2);
        Asked.due("stand(-1)", a.x.stand(-1), -2);
        Asked.due("stands(8)", a.x.stands(8), -2);
        Asked.due("stands(-1)", a.x.stands(-1), -2);
        Asked.due("needs()", a.x.needs(), 2);
    }

    private static void nine() {
        Asked a = new Asked();
        a.tell(Halls.PLACES_OF_NINE);
        // The midst of three by three is 3 steps from a corner; nine SEATS by law 1 want nine.
        Asked.due("stand(1)", a.x.stand(1), 3);
        Asked.due("stands(1)", a.x.stands(1), 16);
        Asked.due("stand(7)", a.x.stand(7), 2);
        Asked.due("needs()", a.x.needs(), -1);
        a.tell(Halls.PLACES_OF_NINE.replace("law 1", "law 2"));
        Asked.due("needs() with law 2", a.x.needs(), 3);
        Asked.due("stand(3)", a.x.stand(3), 2);
        Asked.due("stand(2)", a.x.stand(2), 3);
        a.tell(Halls.PLACES_OF_NINE.replace("law 1", "law 0"));
        Asked.due("needs() with law 0", a.x.needs(), -1);
    }

    private static void eight() {
        Asked a = new Asked();
        StringBuilder text = new StringBuilder("hall rows 2 seats 4 law 1;");
        for (int i = 0; i < 8; i++) {
            text.append("place " + i / 4 + " " + i % 4 + " to 0 then 0;");
        }
        a.tell(text.toString());
        // Eight would do, but a HALL has seven at most.
        Asked.due("needs() of eight", a.x.needs(), -1);
        Asked.due("stand(7) of eight", a.x.stand(7), 2);
        a.tell(Halls.PLACES_OF_NINE.replace("rows 3", "rows 3").replace("to 0", "to 4"));
        Asked.due("gardens are good", a.x.stands(1), 16);
    }

    private static void leastSet() {
        Asked a = new Asked();
        // One PLACE in the midst does as well as two at the ends: the least as bits is the two.
        a.tell("hall rows 1 seats 3 law 2;place 0 0 to 0 then 0;place 0 2 to 0 then 0;place 0 1 to 0 then 0;");
        Asked.due("stand(1)", a.x.stand(1), 2);
        Asked.due("stands(1)", a.x.stands(1), 4);
        Asked.due("stands(2)", a.x.stands(2), 3);
        Asked.due("stand(3)", a.x.stand(3), 1);
        Asked.due("stands(3)", a.x.stands(3), 7);
        Asked.due("needs()", a.x.needs(), 1);
        a.tell("hall rows 1 seats 6 law 6;place 0 5 to 0 then 0;place 0 0 to 2 then 0;");
        Asked.due("only good ones", a.x.stands(7), 1);
        Asked.due("only good ones", a.x.stand(7), 6);
        Asked.due("only good ones", a.x.needs(), 1);
        a.tell("hall rows 6 seats 6 law 11;place 0 0 to 0 then 0;");
        Asked.due("the farthest", a.x.stand(1), 11);
    }

    private static void nothingGood() {
        Asked a = new Asked();
        a.tell("hall rows 1 seats 1 law 12;place 0 0 to 3 then 0;exit 0 wide 1;");
        Asked.due("stand(7)", a.x.stand(7), -1);
        Asked.due("stands(7)", a.x.stands(7), -1);
        Asked.due("needs()", a.x.needs(), -1);
        a.tell(Halls.BARE);
        Asked.due("stand(1) without PLACES", a.x.stand(1), -1);
        Asked.due("needs() without PLACES", a.x.needs(), -1);
    }

    private static void winds() {
        Asked a = new Asked();
        a.tell(Halls.RING);
        Asked.due("wind(0), a ROW", a.x.wind(0), 1);
        Asked.due("wind(1)", a.x.wind(1), 0);
        Asked.due("wind(2), a SEAT", a.x.wind(2), 1);
        Asked.due("wind(60)", a.x.wind(60), -2);
        Asked.due("wind(-1)", a.x.wind(-1), -2);
        Asked.due("calmest(1)", a.x.calmest(1), 0);
        Asked.due("calmest(60)", a.x.calmest(60), 1);
        Asked.due("calmest(0)", a.x.calmest(0), -2);
        Asked.due("calmest(61)", a.x.calmest(61), -2);
        a.tell(Halls.PLACES_OF_NINE + Halls.EXITS_OF_SEVEN);
        // Rows of 3, 3 and 1 EXITS, and likewise SEATS of 3, 2 and 2.
        Asked.due("wind of seven", a.x.wind(0), 3 + 3 + 0 + 3 + 1 + 1);
        a.tell("hall rows 1 seats 2 law 1;place 0 0 to 0 then 1;place 0 1 to 1 then 1;exit 0 wide 1;exit 1 wide 1;");
        Asked.due("wind(0)", a.x.wind(0), 1);
        Asked.due("wind(1) of one PLACE", a.x.wind(1), 0);
        a.tell(Halls.BARE);
        Asked.due("wind without EXITS", a.x.wind(0), 0);
        Asked.due("calmest without EXITS", a.x.calmest(5), 0);
    }
}
